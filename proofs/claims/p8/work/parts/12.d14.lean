theorem kd_A_assessAnew_58 : decode kc_A_assessAnew 58 = .ok (.getfield 53, 3) := by decide +kernel
theorem kd_A_assessAnew_61 : decode kc_A_assessAnew 61 = .ok (.getfield 89, 3) := by decide +kernel
theorem kd_A_assessAnew_64 : decode kc_A_assessAnew 64 = .ok (.iload_n 3, 1) := by decide +kernel
theorem kd_A_assessAnew_65 : decode kc_A_assessAnew 65 = .ok (.iaload, 1) := by decide +kernel
theorem kd_A_assessAnew_66 : decode kc_A_assessAnew 66 = .ok (.isub, 1) := by decide +kernel
theorem kd_A_assessAnew_67 : decode kc_A_assessAnew 67 = .ok (.invokevirtual 104, 3) := by decide +kernel
theorem kd_A_assessAnew_70 : decode kc_A_assessAnew 70 = .ok (.iinc 2 1, 3) := by decide +kernel
theorem kd_A_assessAnew_73 : decode kc_A_assessAnew 73 = .ok (.goto (-67), 3) := by decide +kernel
theorem kd_A_assessAnew_76 : decode kc_A_assessAnew 76 = .ok (.iconst 0, 1) := by decide +kernel
theorem kd_A_assessAnew_77 : decode kc_A_assessAnew 77 = .ok (.istore_n 2, 1) := by decide +kernel
theorem kd_A_assessAnew_78 : decode kc_A_assessAnew 78 = .ok (.iload_n 2, 1) := by decide +kernel
theorem kd_A_assessAnew_79 : decode kc_A_assessAnew 79 = .ok (.aload_n 0, 1) := by decide +kernel
theorem kd_A_assessAnew_80 : decode kc_A_assessAnew 80 = .ok (.getfield 53, 3) := by decide +kernel
theorem kd_A_assessAnew_83 : decode kc_A_assessAnew 83 = .ok (.getfield 57, 3) := by decide +kernel
theorem kd_A_assessAnew_86 : decode kc_A_assessAnew 86 = .ok (.iload_n 1, 1) := by decide +kernel
theorem kd_A_assessAnew_87 : decode kc_A_assessAnew 87 = .ok (.iaload, 1) := by decide +kernel
theorem kd_A_assessAnew_88 : decode kc_A_assessAnew 88 = .ok (.if_icmp .ge 67, 3) := by decide +kernel
theorem kd_A_assessAnew_91 : decode kc_A_assessAnew 91 = .ok (.iload_n 1, 1) := by decide +kernel
theorem kd_A_assessAnew_92 : decode kc_A_assessAnew 92 = .ok (.iload_n 2, 1) := by decide +kernel
theorem kd_A_assessAnew_93 : decode kc_A_assessAnew 93 = .ok (.invokestatic 63, 3) := by decide +kernel
theorem kd_A_assessAnew_96 : decode kc_A_assessAnew 96 = .ok (.istore_n 3, 1) := by decide +kernel
theorem kd_A_assessAnew_97 : decode kc_A_assessAnew 97 = .ok (.aload_n 0, 1) := by decide +kernel
theorem kd_A_assessAnew_98 : decode kc_A_assessAnew 98 = .ok (.getfield 27, 3) := by decide +kernel
theorem kd_A_assessAnew_101 : decode kc_A_assessAnew 101 = .ok (.iload_n 2, 1) := by decide +kernel
theorem kd_A_assessAnew_102 : decode kc_A_assessAnew 102 = .ok (.iaload, 1) := by decide +kernel
theorem kd_A_assessAnew_103 : decode kc_A_assessAnew 103 = .ok (.aload_n 0, 1) := by decide +kernel
theorem kd_A_assessAnew_104 : decode kc_A_assessAnew 104 = .ok (.getfield 53, 3) := by decide +kernel
theorem kd_A_assessAnew_107 : decode kc_A_assessAnew 107 = .ok (.getfield 101, 3) := by decide +kernel
theorem kd_A_assessAnew_110 : decode kc_A_assessAnew 110 = .ok (.iload_n 3, 1) := by decide +kernel
theorem kd_A_assessAnew_111 : decode kc_A_assessAnew 111 = .ok (.iaload, 1) := by decide +kernel
theorem kd_A_assessAnew_112 : decode kc_A_assessAnew 112 = .ok (.if_icmp .eq 23, 3) := by decide +kernel
theorem kd_A_assessAnew_115 : decode kc_A_assessAnew 115 = .ok (.aload_n 0, 1) := by decide +kernel
theorem kd_A_assessAnew_116 : decode kc_A_assessAnew 116 = .ok (.iload_n 2, 1) := by decide +kernel
theorem kd_A_assessAnew_117 : decode kc_A_assessAnew 117 = .ok (.aload_n 0, 1) := by decide +kernel
theorem kd_A_assessAnew_118 : decode kc_A_assessAnew 118 = .ok (.getfield 53, 3) := by decide +kernel
theorem kd_A_assessAnew_121 : decode kc_A_assessAnew 121 = .ok (.getfield 101, 3) := by decide +kernel
theorem kd_A_assessAnew_124 : decode kc_A_assessAnew 124 = .ok (.iload_n 3, 1) := by decide +kernel
theorem kd_A_assessAnew_125 : decode kc_A_assessAnew 125 = .ok (.iaload, 1) := by decide +kernel
theorem kd_A_assessAnew_126 : decode kc_A_assessAnew 126 = .ok (.aload_n 0, 1) := by decide +kernel
theorem kd_A_assessAnew_127 : decode kc_A_assessAnew 127 = .ok (.getfield 13, 3) := by decide +kernel
theorem kd_A_assessAnew_130 : decode kc_A_assessAnew 130 = .ok (.iload_n 2, 1) := by decide +kernel
theorem kd_A_assessAnew_131 : decode kc_A_assessAnew 131 = .ok (.iaload, 1) := by decide +kernel
theorem kd_A_assessAnew_132 : decode kc_A_assessAnew 132 = .ok (.invokevirtual 104, 3) := by decide +kernel
theorem kd_A_assessAnew_135 : decode kc_A_assessAnew 135 = .ok (.aload_n 0, 1) := by decide +kernel
theorem kd_A_assessAnew_136 : decode kc_A_assessAnew 136 = .ok (.iload_n 2, 1) := by decide +kernel
theorem kd_A_assessAnew_137 : decode kc_A_assessAnew 137 = .ok (.aload_n 0, 1) := by decide +kernel
theorem kd_A_assessAnew_138 : decode kc_A_assessAnew 138 = .ok (.getfield 53, 3) := by decide +kernel
theorem kd_A_assessAnew_141 : decode kc_A_assessAnew 141 = .ok (.getfield 89, 3) := by decide +kernel
theorem kd_A_assessAnew_144 : decode kc_A_assessAnew 144 = .ok (.iload_n 3, 1) := by decide +kernel
theorem kd_A_assessAnew_145 : decode kc_A_assessAnew 145 = .ok (.iaload, 1) := by decide +kernel
theorem kd_A_assessAnew_146 : decode kc_A_assessAnew 146 = .ok (.invokevirtual 92, 3) := by decide +kernel
theorem kd_A_assessAnew_149 : decode kc_A_assessAnew 149 = .ok (.iinc 2 1, 3) := by decide +kernel
theorem kd_A_assessAnew_152 : decode kc_A_assessAnew 152 = .ok (.goto (-74), 3) := by decide +kernel
theorem kd_A_assessAnew_155 : decode kc_A_assessAnew 155 = .ok (.aload_n 0, 1) := by decide +kernel
theorem kd_A_assessAnew_156 : decode kc_A_assessAnew 156 = .ok (.iload_n 1, 1) := by decide +kernel
theorem kd_A_assessAnew_157 : decode kc_A_assessAnew 157 = .ok (.invokevirtual 96, 3) := by decide +kernel
theorem kd_A_assessAnew_160 : decode kc_A_assessAnew 160 = .ok (.return_, 1) := by decide +kernel
theorem kd_A_book_0 : decode kc_A_book 0 = .ok (.iconst 0, 1) := by decide +kernel
theorem kd_A_book_1 : decode kc_A_book 1 = .ok (.istore_n 2, 1) := by decide +kernel
theorem kd_A_book_2 : decode kc_A_book 2 = .ok (.iload_n 2, 1) := by decide +kernel
theorem kd_A_book_3 : decode kc_A_book 3 = .ok (.aload_n 0, 1) := by decide +kernel
theorem kd_A_book_4 : decode kc_A_book 4 = .ok (.getfield 53, 3) := by decide +kernel
theorem kd_A_book_7 : decode kc_A_book 7 = .ok (.getfield 57, 3) := by decide +kernel
theorem kd_A_book_10 : decode kc_A_book 10 = .ok (.iload_n 1, 1) := by decide +kernel
theorem kd_A_book_11 : decode kc_A_book 11 = .ok (.iaload, 1) := by decide +kernel
theorem kd_A_book_12 : decode kc_A_book 12 = .ok (.if_icmp .ge 60, 3) := by decide +kernel
theorem kd_A_book_15 : decode kc_A_book 15 = .ok (.iload_n 1, 1) := by decide +kernel
theorem kd_A_book_16 : decode kc_A_book 16 = .ok (.iload_n 2, 1) := by decide +kernel
theorem kd_A_book_17 : decode kc_A_book 17 = .ok (.invokestatic 63, 3) := by decide +kernel
theorem kd_A_book_20 : decode kc_A_book 20 = .ok (.istore_n 3, 1) := by decide +kernel
theorem kd_A_book_21 : decode kc_A_book 21 = .ok (.aload_n 0, 1) := by decide +kernel
theorem kd_A_book_22 : decode kc_A_book 22 = .ok (.getfield 53, 3) := by decide +kernel
theorem kd_A_book_25 : decode kc_A_book 25 = .ok (.getfield 101, 3) := by decide +kernel
theorem kd_A_book_28 : decode kc_A_book 28 = .ok (.iload_n 3, 1) := by decide +kernel
theorem kd_A_book_29 : decode kc_A_book 29 = .ok (.aload_n 0, 1) := by decide +kernel
theorem kd_A_book_30 : decode kc_A_book 30 = .ok (.getfield 27, 3) := by decide +kernel
theorem kd_A_book_33 : decode kc_A_book 33 = .ok (.iload_n 2, 1) := by decide +kernel
theorem kd_A_book_34 : decode kc_A_book 34 = .ok (.iaload, 1) := by decide +kernel
theorem kd_A_book_35 : decode kc_A_book 35 = .ok (.iastore, 1) := by decide +kernel
theorem kd_A_book_36 : decode kc_A_book 36 = .ok (.aload_n 0, 1) := by decide +kernel
theorem kd_A_book_37 : decode kc_A_book 37 = .ok (.getfield 53, 3) := by decide +kernel
theorem kd_A_book_40 : decode kc_A_book 40 = .ok (.getfield 100, 3) := by decide +kernel
theorem kd_A_book_43 : decode kc_A_book 43 = .ok (.iload_n 3, 1) := by decide +kernel
theorem kd_A_book_44 : decode kc_A_book 44 = .ok (.aload_n 0, 1) := by decide +kernel
theorem kd_A_book_45 : decode kc_A_book 45 = .ok (.getfield 13, 3) := by decide +kernel
theorem kd_A_book_48 : decode kc_A_book 48 = .ok (.iload_n 2, 1) := by decide +kernel
theorem kd_A_book_49 : decode kc_A_book 49 = .ok (.iaload, 1) := by decide +kernel
theorem kd_A_book_50 : decode kc_A_book 50 = .ok (.iastore, 1) := by decide +kernel
theorem kd_A_book_51 : decode kc_A_book 51 = .ok (.aload_n 0, 1) := by decide +kernel
theorem kd_A_book_52 : decode kc_A_book 52 = .ok (.getfield 53, 3) := by decide +kernel
theorem kd_A_book_55 : decode kc_A_book 55 = .ok (.getfield 108, 3) := by decide +kernel
theorem kd_A_book_58 : decode kc_A_book 58 = .ok (.iload_n 3, 1) := by decide +kernel
theorem kd_A_book_59 : decode kc_A_book 59 = .ok (.aload_n 0, 1) := by decide +kernel
theorem kd_A_book_60 : decode kc_A_book 60 = .ok (.getfield 17, 3) := by decide +kernel
theorem kd_A_book_63 : decode kc_A_book 63 = .ok (.iload_n 2, 1) := by decide +kernel
theorem kd_A_book_64 : decode kc_A_book 64 = .ok (.laload, 1) := by decide +kernel
theorem kd_A_book_65 : decode kc_A_book 65 = .ok (.lastore, 1) := by decide +kernel
theorem kd_A_book_66 : decode kc_A_book 66 = .ok (.iinc 2 1, 3) := by decide +kernel
theorem kd_A_book_69 : decode kc_A_book 69 = .ok (.goto (-67), 3) := by decide +kernel
theorem kd_A_book_72 : decode kc_A_book 72 = .ok (.aload_n 0, 1) := by decide +kernel
theorem kd_A_book_73 : decode kc_A_book 73 = .ok (.getfield 32, 3) := by decide +kernel
theorem kd_A_book_76 : decode kc_A_book 76 = .ok (.iconst 0, 1) := by decide +kernel
theorem kd_A_book_77 : decode kc_A_book 77 = .ok (.aload_n 0, 1) := by decide +kernel
theorem kd_A_book_78 : decode kc_A_book 78 = .ok (.getfield 49, 3) := by decide +kernel
theorem kd_A_book_81 : decode kc_A_book 81 = .ok (.getfield 109, 3) := by decide +kernel
theorem kd_A_book_84 : decode kc_A_book 84 = .ok (.iconst 0, 1) := by decide +kernel
theorem kd_A_book_85 : decode kc_A_book 85 = .ok (.bipush 8, 2) := by decide +kernel
theorem kd_A_book_87 : decode kc_A_book 87 = .ok (.invokestatic 110, 3) := by decide +kernel
theorem kd_A_book_90 : decode kc_A_book 90 = .ok (.return_, 1) := by decide +kernel
theorem kd_A_canAssess_0 : decode kc_A_canAssess 0 = .ok (.aload_n 0, 1) := by decide +kernel
theorem kd_A_canAssess_1 : decode kc_A_canAssess 1 = .ok (.getfield 53, 3) := by decide +kernel
theorem kd_A_canAssess_4 : decode kc_A_canAssess 4 = .ok (.getfield 57, 3) := by decide +kernel
theorem kd_A_canAssess_7 : decode kc_A_canAssess 7 = .ok (.iload_n 1, 1) := by decide +kernel
theorem kd_A_canAssess_8 : decode kc_A_canAssess 8 = .ok (.iaload, 1) := by decide +kernel
theorem kd_A_canAssess_9 : decode kc_A_canAssess 9 = .ok (.istore_n 2, 1) := by decide +kernel
theorem kd_A_canAssess_10 : decode kc_A_canAssess 10 = .ok (.aload_n 0, 1) := by decide +kernel
theorem kd_A_canAssess_11 : decode kc_A_canAssess 11 = .ok (.getfield 53, 3) := by decide +kernel
theorem kd_A_canAssess_14 : decode kc_A_canAssess 14 = .ok (.getfield 60, 3) := by decide +kernel
theorem kd_A_canAssess_17 : decode kc_A_canAssess 17 = .ok (.iload_n 1, 1) := by decide +kernel
theorem kd_A_canAssess_18 : decode kc_A_canAssess 18 = .ok (.iaload, 1) := by decide +kernel
theorem kd_A_canAssess_19 : decode kc_A_canAssess 19 = .ok (.istore_n 3, 1) := by decide +kernel
theorem kd_A_canAssess_20 : decode kc_A_canAssess 20 = .ok (.iconst 0, 1) := by decide +kernel
theorem kd_A_canAssess_21 : decode kc_A_canAssess 21 = .ok (.istore 4, 2) := by decide +kernel
theorem kd_A_canAssess_23 : decode kc_A_canAssess 23 = .ok (.iload 4, 2) := by decide +kernel
theorem kd_A_canAssess_25 : decode kc_A_canAssess 25 = .ok (.iload_n 2, 1) := by decide +kernel
theorem kd_A_canAssess_26 : decode kc_A_canAssess 26 = .ok (.if_icmp .ge 109, 3) := by decide +kernel
theorem kd_A_canAssess_29 : decode kc_A_canAssess 29 = .ok (.iload_n 1, 1) := by decide +kernel
theorem kd_A_canAssess_30 : decode kc_A_canAssess 30 = .ok (.iload 4, 2) := by decide +kernel
theorem kd_A_canAssess_32 : decode kc_A_canAssess 32 = .ok (.invokestatic 63, 3) := by decide +kernel
theorem kd_A_canAssess_35 : decode kc_A_canAssess 35 = .ok (.istore 5, 2) := by decide +kernel
theorem kd_A_canAssess_37 : decode kc_A_canAssess 37 = .ok (.aload_n 0, 1) := by decide +kernel
theorem kd_A_canAssess_38 : decode kc_A_canAssess 38 = .ok (.getfield 53, 3) := by decide +kernel
theorem kd_A_canAssess_41 : decode kc_A_canAssess 41 = .ok (.getfield 67, 3) := by decide +kernel
theorem kd_A_canAssess_44 : decode kc_A_canAssess 44 = .ok (.iload 5, 2) := by decide +kernel
theorem kd_A_canAssess_46 : decode kc_A_canAssess 46 = .ok (.iaload, 1) := by decide +kernel
theorem kd_A_canAssess_47 : decode kc_A_canAssess 47 = .ok (.istore 6, 2) := by decide +kernel
theorem kd_A_canAssess_49 : decode kc_A_canAssess 49 = .ok (.aload_n 0, 1) := by decide +kernel
theorem kd_A_canAssess_50 : decode kc_A_canAssess 50 = .ok (.getfield 41, 3) := by decide +kernel
theorem kd_A_canAssess_53 : decode kc_A_canAssess 53 = .ok (.aload_n 0, 1) := by decide +kernel
theorem kd_A_canAssess_54 : decode kc_A_canAssess 54 = .ok (.getfield 53, 3) := by decide +kernel
theorem kd_A_canAssess_57 : decode kc_A_canAssess 57 = .ok (.getfield 70, 3) := by decide +kernel
theorem kd_A_canAssess_60 : decode kc_A_canAssess 60 = .ok (.iload 5, 2) := by decide +kernel
theorem kd_A_canAssess_62 : decode kc_A_canAssess 62 = .ok (.iaload, 1) := by decide +kernel
theorem kd_A_canAssess_63 : decode kc_A_canAssess 63 = .ok (.invokevirtual 73, 3) := by decide +kernel
theorem kd_A_canAssess_66 : decode kc_A_canAssess 66 = .ok (.istore 7, 2) := by decide +kernel
theorem kd_A_canAssess_68 : decode kc_A_canAssess 68 = .ok (.aload_n 0, 1) := by decide +kernel
theorem kd_A_canAssess_69 : decode kc_A_canAssess 69 = .ok (.getfield 24, 3) := by decide +kernel
theorem kd_A_canAssess_72 : decode kc_A_canAssess 72 = .ok (.iload 4, 2) := by decide +kernel
theorem kd_A_canAssess_74 : decode kc_A_canAssess 74 = .ok (.iload 7, 2) := by decide +kernel
theorem kd_A_canAssess_76 : decode kc_A_canAssess 76 = .ok (.iconst (-1), 1) := by decide +kernel
theorem kd_A_canAssess_77 : decode kc_A_canAssess 77 = .ok (.if_icmp .ne 7, 3) := by decide +kernel
theorem kd_A_canAssess_80 : decode kc_A_canAssess 80 = .ok (.iconst (-1), 1) := by decide +kernel
theorem kd_A_canAssess_81 : decode kc_A_canAssess 81 = .ok (.goto 15, 3) := by decide +kernel
theorem kd_A_canAssess_84 : decode kc_A_canAssess 84 = .ok (.aload_n 0, 1) := by decide +kernel
theorem kd_A_canAssess_85 : decode kc_A_canAssess 85 = .ok (.getfield 45, 3) := by decide +kernel
theorem kd_A_canAssess_88 : decode kc_A_canAssess 88 = .ok (.iload 7, 2) := by decide +kernel
theorem kd_A_canAssess_90 : decode kc_A_canAssess 90 = .ok (.iload 6, 2) := by decide +kernel
theorem kd_A_canAssess_92 : decode kc_A_canAssess 92 = .ok (.iload_n 3, 1) := by decide +kernel
theorem kd_A_canAssess_93 : decode kc_A_canAssess 93 = .ok (.invokevirtual 79, 3) := by decide +kernel
theorem kd_A_canAssess_96 : decode kc_A_canAssess 96 = .ok (.iastore, 1) := by decide +kernel
theorem kd_A_canAssess_97 : decode kc_A_canAssess 97 = .ok (.aload_n 0, 1) := by decide +kernel
theorem kd_A_canAssess_98 : decode kc_A_canAssess 98 = .ok (.getfield 24, 3) := by decide +kernel
theorem kd_A_canAssess_101 : decode kc_A_canAssess 101 = .ok (.iload 4, 2) := by decide +kernel
theorem kd_A_canAssess_103 : decode kc_A_canAssess 103 = .ok (.iaload, 1) := by decide +kernel
theorem kd_A_canAssess_104 : decode kc_A_canAssess 104 = .ok (.iconst (-1), 1) := by decide +kernel
theorem kd_A_canAssess_105 : decode kc_A_canAssess 105 = .ok (.if_icmp .ne 5, 3) := by decide +kernel
theorem kd_A_canAssess_108 : decode kc_A_canAssess 108 = .ok (.iconst 0, 1) := by decide +kernel
theorem kd_A_canAssess_109 : decode kc_A_canAssess 109 = .ok (.ireturn, 1) := by decide +kernel
theorem kd_A_canAssess_110 : decode kc_A_canAssess 110 = .ok (.aload_n 0, 1) := by decide +kernel
theorem kd_A_canAssess_111 : decode kc_A_canAssess 111 = .ok (.getfield 27, 3) := by decide +kernel
theorem kd_A_canAssess_114 : decode kc_A_canAssess 114 = .ok (.iload 4, 2) := by decide +kernel
theorem kd_A_canAssess_116 : decode kc_A_canAssess 116 = .ok (.aload_n 0, 1) := by decide +kernel
theorem kd_A_canAssess_117 : decode kc_A_canAssess 117 = .ok (.getfield 49, 3) := by decide +kernel
theorem kd_A_canAssess_120 : decode kc_A_canAssess 120 = .ok (.iload 7, 2) := by decide +kernel
theorem kd_A_canAssess_122 : decode kc_A_canAssess 122 = .ok (.iload 6, 2) := by decide +kernel
theorem kd_A_canAssess_124 : decode kc_A_canAssess 124 = .ok (.iload_n 3, 1) := by decide +kernel
theorem kd_A_canAssess_125 : decode kc_A_canAssess 125 = .ok (.invokevirtual 85, 3) := by decide +kernel
theorem kd_A_canAssess_128 : decode kc_A_canAssess 128 = .ok (.iastore, 1) := by decide +kernel
theorem kd_A_canAssess_129 : decode kc_A_canAssess 129 = .ok (.iinc 4 1, 3) := by decide +kernel
theorem kd_A_canAssess_132 : decode kc_A_canAssess 132 = .ok (.goto (-109), 3) := by decide +kernel
theorem kd_A_canAssess_135 : decode kc_A_canAssess 135 = .ok (.iload_n 2, 1) := by decide +kernel
theorem kd_A_canAssess_136 : decode kc_A_canAssess 136 = .ok (.ifCond .le 7, 3) := by decide +kernel
theorem kd_A_canAssess_139 : decode kc_A_canAssess 139 = .ok (.iconst 1, 1) := by decide +kernel
theorem kd_A_canAssess_140 : decode kc_A_canAssess 140 = .ok (.goto 4, 3) := by decide +kernel
theorem kd_A_canAssess_143 : decode kc_A_canAssess 143 = .ok (.iconst 0, 1) := by decide +kernel
theorem kd_A_canAssess_144 : decode kc_A_canAssess 144 = .ok (.ireturn, 1) := by decide +kernel
theorem kd_B_makeLots_0 : decode kc_B_makeLots 0 = .ok (.aload_n 0, 1) := by decide +kernel
theorem kd_B_makeLots_1 : decode kc_B_makeLots 1 = .ok (.getfield 42, 3) := by decide +kernel
theorem kd_B_makeLots_4 : decode kc_B_makeLots 4 = .ok (.getfield 294, 3) := by decide +kernel
theorem kd_B_makeLots_7 : decode kc_B_makeLots 7 = .ok (.iload_n 1, 1) := by decide +kernel
theorem kd_B_makeLots_8 : decode kc_B_makeLots 8 = .ok (.aload_n 0, 1) := by decide +kernel
theorem kd_B_makeLots_9 : decode kc_B_makeLots 9 = .ok (.getfield 58, 3) := by decide +kernel
theorem kd_B_makeLots_12 : decode kc_B_makeLots 12 = .ok (.getfield 224, 3) := by decide +kernel
theorem kd_B_makeLots_15 : decode kc_B_makeLots 15 = .ok (.iastore, 1) := by decide +kernel
theorem kd_B_makeLots_16 : decode kc_B_makeLots 16 = .ok (.iconst 0, 1) := by decide +kernel
theorem kd_B_makeLots_17 : decode kc_B_makeLots 17 = .ok (.istore_n 2, 1) := by decide +kernel
theorem kd_B_makeLots_18 : decode kc_B_makeLots 18 = .ok (.iload_n 2, 1) := by decide +kernel
theorem kd_B_makeLots_19 : decode kc_B_makeLots 19 = .ok (.aload_n 0, 1) := by decide +kernel
theorem kd_B_makeLots_20 : decode kc_B_makeLots 20 = .ok (.getfield 42, 3) := by decide +kernel
theorem kd_B_makeLots_23 : decode kc_B_makeLots 23 = .ok (.getfield 181, 3) := by decide +kernel
theorem kd_B_makeLots_26 : decode kc_B_makeLots 26 = .ok (.iload_n 1, 1) := by decide +kernel
theorem kd_B_makeLots_27 : decode kc_B_makeLots 27 = .ok (.iaload, 1) := by decide +kernel
theorem kd_B_makeLots_28 : decode kc_B_makeLots 28 = .ok (.if_icmp .ge 87, 3) := by decide +kernel
theorem kd_B_makeLots_31 : decode kc_B_makeLots 31 = .ok (.iload_n 1, 1) := by decide +kernel
theorem kd_B_makeLots_32 : decode kc_B_makeLots 32 = .ok (.iload_n 2, 1) := by decide +kernel
theorem kd_B_makeLots_33 : decode kc_B_makeLots 33 = .ok (.invokestatic 199, 3) := by decide +kernel
theorem kd_B_makeLots_36 : decode kc_B_makeLots 36 = .ok (.istore_n 3, 1) := by decide +kernel
theorem kd_B_makeLots_37 : decode kc_B_makeLots 37 = .ok (.aload_n 0, 1) := by decide +kernel
theorem kd_B_makeLots_38 : decode kc_B_makeLots 38 = .ok (.getfield 42, 3) := by decide +kernel
theorem kd_B_makeLots_41 : decode kc_B_makeLots 41 = .ok (.getfield 297, 3) := by decide +kernel
theorem kd_B_makeLots_44 : decode kc_B_makeLots 44 = .ok (.iload_n 3, 1) := by decide +kernel
theorem kd_B_makeLots_45 : decode kc_B_makeLots 45 = .ok (.baload, 1) := by decide +kernel
theorem kd_B_makeLots_46 : decode kc_B_makeLots 46 = .ok (.istore 4, 2) := by decide +kernel
theorem kd_B_makeLots_48 : decode kc_B_makeLots 48 = .ok (.aload_n 0, 1) := by decide +kernel
theorem kd_B_makeLots_49 : decode kc_B_makeLots 49 = .ok (.getfield 42, 3) := by decide +kernel
theorem kd_B_makeLots_52 : decode kc_B_makeLots 52 = .ok (.getfield 205, 3) := by decide +kernel
theorem kd_B_makeLots_55 : decode kc_B_makeLots 55 = .ok (.iload_n 3, 1) := by decide +kernel
theorem kd_B_makeLots_56 : decode kc_B_makeLots 56 = .ok (.laload, 1) := by decide +kernel
theorem kd_B_makeLots_57 : decode kc_B_makeLots 57 = .ok (.lstore 5, 2) := by decide +kernel
theorem kd_B_makeLots_59 : decode kc_B_makeLots 59 = .ok (.aload_n 0, 1) := by decide +kernel
theorem kd_B_makeLots_60 : decode kc_B_makeLots 60 = .ok (.getfield 58, 3) := by decide +kernel
theorem kd_B_makeLots_63 : decode kc_B_makeLots 63 = .ok (.aload_n 0, 1) := by decide +kernel
theorem kd_B_makeLots_64 : decode kc_B_makeLots 64 = .ok (.getfield 42, 3) := by decide +kernel
theorem kd_B_makeLots_67 : decode kc_B_makeLots 67 = .ok (.getfield 298, 3) := by decide +kernel
theorem kd_B_makeLots_70 : decode kc_B_makeLots 70 = .ok (.iload_n 3, 1) := by decide +kernel
theorem kd_B_makeLots_71 : decode kc_B_makeLots 71 = .ok (.iaload, 1) := by decide +kernel
theorem kd_B_makeLots_72 : decode kc_B_makeLots 72 = .ok (.aload_n 0, 1) := by decide +kernel
theorem kd_B_makeLots_73 : decode kc_B_makeLots 73 = .ok (.getfield 42, 3) := by decide +kernel
theorem kd_B_makeLots_76 : decode kc_B_makeLots 76 = .ok (.getfield 299, 3) := by decide +kernel
theorem kd_B_makeLots_79 : decode kc_B_makeLots 79 = .ok (.iload_n 3, 1) := by decide +kernel
theorem kd_B_makeLots_80 : decode kc_B_makeLots 80 = .ok (.iaload, 1) := by decide +kernel
theorem kd_B_makeLots_81 : decode kc_B_makeLots 81 = .ok (.lload 5, 2) := by decide +kernel
theorem kd_B_makeLots_83 : decode kc_B_makeLots 83 = .ok (.iload 4, 2) := by decide +kernel
theorem kd_B_makeLots_85 : decode kc_B_makeLots 85 = .ok (.iconst 0, 1) := by decide +kernel
theorem kd_B_makeLots_86 : decode kc_B_makeLots 86 = .ok (.invokevirtual 275, 3) := by decide +kernel
theorem kd_B_makeLots_89 : decode kc_B_makeLots 89 = .ok (.pop, 1) := by decide +kernel
theorem kd_B_makeLots_90 : decode kc_B_makeLots 90 = .ok (.iload 4, 2) := by decide +kernel
theorem kd_B_makeLots_92 : decode kc_B_makeLots 92 = .ok (.ifCond .ne 17, 3) := by decide +kernel
theorem kd_B_makeLots_95 : decode kc_B_makeLots 95 = .ok (.aload_n 0, 1) := by decide +kernel
theorem kd_B_makeLots_96 : decode kc_B_makeLots 96 = .ok (.getfield 65, 3) := by decide +kernel
theorem kd_B_makeLots_99 : decode kc_B_makeLots 99 = .ok (.dup, 1) := by decide +kernel
theorem kd_B_makeLots_100 : decode kc_B_makeLots 100 = .ok (.getfield 259, 3) := by decide +kernel
theorem kd_B_makeLots_103 : decode kc_B_makeLots 103 = .ok (.lload 5, 2) := by decide +kernel
theorem kd_B_makeLots_105 : decode kc_B_makeLots 105 = .ok (.ladd, 1) := by decide +kernel
theorem kd_B_makeLots_106 : decode kc_B_makeLots 106 = .ok (.putfield 259, 3) := by decide +kernel
theorem kd_B_makeLots_109 : decode kc_B_makeLots 109 = .ok (.iinc 2 1, 3) := by decide +kernel
theorem kd_B_makeLots_112 : decode kc_B_makeLots 112 = .ok (.goto (-94), 3) := by decide +kernel
theorem kd_B_makeLots_115 : decode kc_B_makeLots 115 = .ok (.return_, 1) := by decide +kernel
theorem kd_B_changeLots_0 : decode kc_B_changeLots 0 = .ok (.iconst 0, 1) := by decide +kernel
theorem kd_B_changeLots_1 : decode kc_B_changeLots 1 = .ok (.istore_n 2, 1) := by decide +kernel
