theorem kd_M_take_101 : decode kc_M_take 101 = .ok (.iadd, 1) := by decide +kernel
theorem kd_M_take_102 : decode kc_M_take 102 = .ok (.iastore, 1) := by decide +kernel
theorem kd_M_take_103 : decode kc_M_take 103 = .ok (.lload 4, 2) := by decide +kernel
theorem kd_M_take_105 : decode kc_M_take 105 = .ok (.aload_n 0, 1) := by decide +kernel
theorem kd_M_take_106 : decode kc_M_take 106 = .ok (.getfield 172, 3) := by decide +kernel
theorem kd_M_take_109 : decode kc_M_take 109 = .ok (.iload 7, 2) := by decide +kernel
theorem kd_M_take_111 : decode kc_M_take 111 = .ok (.laload, 1) := by decide +kernel
theorem kd_M_take_112 : decode kc_M_take 112 = .ok (.aload_n 0, 1) := by decide +kernel
theorem kd_M_take_113 : decode kc_M_take 113 = .ok (.getfield 169, 3) := by decide +kernel
theorem kd_M_take_116 : decode kc_M_take 116 = .ok (.iload 7, 2) := by decide +kernel
theorem kd_M_take_118 : decode kc_M_take 118 = .ok (.iaload, 1) := by decide +kernel
theorem kd_M_take_119 : decode kc_M_take 119 = .ok (.i2l, 1) := by decide +kernel
theorem kd_M_take_120 : decode kc_M_take 120 = .ok (.lmul, 1) := by decide +kernel
theorem kd_M_take_121 : decode kc_M_take 121 = .ok (.aload_n 0, 1) := by decide +kernel
theorem kd_M_take_122 : decode kc_M_take 122 = .ok (.getfield 166, 3) := by decide +kernel
theorem kd_M_take_125 : decode kc_M_take 125 = .ok (.iload 7, 2) := by decide +kernel
theorem kd_M_take_127 : decode kc_M_take 127 = .ok (.iaload, 1) := by decide +kernel
theorem kd_M_take_128 : decode kc_M_take 128 = .ok (.i2l, 1) := by decide +kernel
theorem kd_M_take_129 : decode kc_M_take 129 = .ok (.ldiv, 1) := by decide +kernel
theorem kd_M_take_130 : decode kc_M_take 130 = .ok (.ladd, 1) := by decide +kernel
theorem kd_M_take_131 : decode kc_M_take 131 = .ok (.lstore 4, 2) := by decide +kernel
theorem kd_M_take_133 : decode kc_M_take 133 = .ok (.iinc 6 (-1), 3) := by decide +kernel
theorem kd_M_take_136 : decode kc_M_take 136 = .ok (.goto (-118), 3) := by decide +kernel
theorem kd_M_take_139 : decode kc_M_take 139 = .ok (.iinc 7 1, 3) := by decide +kernel
theorem kd_M_take_142 : decode kc_M_take 142 = .ok (.goto (-133), 3) := by decide +kernel
theorem kd_M_take_145 : decode kc_M_take 145 = .ok (.lload 4, 2) := by decide +kernel
theorem kd_M_take_147 : decode kc_M_take 147 = .ok (.lreturn, 1) := by decide +kernel
theorem kd_M_release_0 : decode kc_M_release 0 = .ok (.aload_n 0, 1) := by decide +kernel
theorem kd_M_release_1 : decode kc_M_release 1 = .ok (.iload_n 1, 1) := by decide +kernel
theorem kd_M_release_2 : decode kc_M_release 2 = .ok (.iconst 0, 1) := by decide +kernel
theorem kd_M_release_3 : decode kc_M_release 3 = .ok (.bipush 15, 2) := by decide +kernel
theorem kd_M_release_5 : decode kc_M_release 5 = .ok (.invokestatic 204, 3) := by decide +kernel
theorem kd_M_release_8 : decode kc_M_release 8 = .ok (.ifCond .eq 11, 3) := by decide +kernel
theorem kd_M_release_11 : decode kc_M_release 11 = .ok (.iconst 0, 1) := by decide +kernel
theorem kd_M_release_12 : decode kc_M_release 12 = .ok (.iload_n 2, 1) := by decide +kernel
theorem kd_M_release_13 : decode kc_M_release 13 = .ok (.invokestatic 258, 3) := by decide +kernel
theorem kd_M_release_16 : decode kc_M_release 16 = .ok (.ifCond .ne 7, 3) := by decide +kernel
theorem kd_M_release_19 : decode kc_M_release 19 = .ok (.iconst 1, 1) := by decide +kernel
theorem kd_M_release_20 : decode kc_M_release 20 = .ok (.goto 18, 3) := by decide +kernel
theorem kd_M_release_23 : decode kc_M_release 23 = .ok (.aload_n 0, 1) := by decide +kernel
theorem kd_M_release_24 : decode kc_M_release 24 = .ok (.iload_n 1, 1) := by decide +kernel
theorem kd_M_release_25 : decode kc_M_release 25 = .ok (.iconst 1, 1) := by decide +kernel
theorem kd_M_release_26 : decode kc_M_release 26 = .ok (.invokevirtual 319, 3) := by decide +kernel
theorem kd_M_release_29 : decode kc_M_release 29 = .ok (.iload_n 2, 1) := by decide +kernel
theorem kd_M_release_30 : decode kc_M_release 30 = .ok (.if_icmp .ge 7, 3) := by decide +kernel
theorem kd_M_release_33 : decode kc_M_release 33 = .ok (.iconst 2, 1) := by decide +kernel
theorem kd_M_release_34 : decode kc_M_release 34 = .ok (.goto 4, 3) := by decide +kernel
theorem kd_M_release_37 : decode kc_M_release 37 = .ok (.iconst 0, 1) := by decide +kernel
theorem kd_M_release_38 : decode kc_M_release 38 = .ok (.putfield 190, 3) := by decide +kernel
theorem kd_M_release_41 : decode kc_M_release 41 = .ok (.aload_n 0, 1) := by decide +kernel
theorem kd_M_release_42 : decode kc_M_release 42 = .ok (.getfield 190, 3) := by decide +kernel
theorem kd_M_release_45 : decode kc_M_release 45 = .ok (.ifCond .le 5, 3) := by decide +kernel
theorem kd_M_release_48 : decode kc_M_release 48 = .ok (.lconst 0, 1) := by decide +kernel
theorem kd_M_release_49 : decode kc_M_release 49 = .ok (.lreturn, 1) := by decide +kernel
theorem kd_M_release_50 : decode kc_M_release 50 = .ok (.aload_n 0, 1) := by decide +kernel
theorem kd_M_release_51 : decode kc_M_release 51 = .ok (.iload_n 1, 1) := by decide +kernel
theorem kd_M_release_52 : decode kc_M_release 52 = .ok (.iload_n 2, 1) := by decide +kernel
theorem kd_M_release_53 : decode kc_M_release 53 = .ok (.iconst 1, 1) := by decide +kernel
theorem kd_M_release_54 : decode kc_M_release 54 = .ok (.invokevirtual 323, 3) := by decide +kernel
theorem kd_M_release_57 : decode kc_M_release 57 = .ok (.lstore_n 3, 1) := by decide +kernel
theorem kd_M_release_58 : decode kc_M_release 58 = .ok (.aload_n 0, 1) := by decide +kernel
theorem kd_M_release_59 : decode kc_M_release 59 = .ok (.getfield 181, 3) := by decide +kernel
theorem kd_M_release_62 : decode kc_M_release 62 = .ok (.iload_n 1, 1) := by decide +kernel
theorem kd_M_release_63 : decode kc_M_release 63 = .ok (.aload_n 0, 1) := by decide +kernel
theorem kd_M_release_64 : decode kc_M_release 64 = .ok (.getfield 181, 3) := by decide +kernel
theorem kd_M_release_67 : decode kc_M_release 67 = .ok (.iload_n 1, 1) := by decide +kernel
theorem kd_M_release_68 : decode kc_M_release 68 = .ok (.iaload, 1) := by decide +kernel
theorem kd_M_release_69 : decode kc_M_release 69 = .ok (.iload_n 2, 1) := by decide +kernel
theorem kd_M_release_70 : decode kc_M_release 70 = .ok (.iadd, 1) := by decide +kernel
theorem kd_M_release_71 : decode kc_M_release 71 = .ok (.iastore, 1) := by decide +kernel
theorem kd_M_release_72 : decode kc_M_release 72 = .ok (.aload_n 0, 1) := by decide +kernel
theorem kd_M_release_73 : decode kc_M_release 73 = .ok (.aload_n 0, 1) := by decide +kernel
theorem kd_M_release_74 : decode kc_M_release 74 = .ok (.getfield 312, 3) := by decide +kernel
theorem kd_M_release_77 : decode kc_M_release 77 = .ok (.lload_n 3, 1) := by decide +kernel
theorem kd_M_release_78 : decode kc_M_release 78 = .ok (.ladd, 1) := by decide +kernel
theorem kd_M_release_79 : decode kc_M_release 79 = .ok (.putfield 312, 3) := by decide +kernel
theorem kd_M_release_82 : decode kc_M_release 82 = .ok (.lload_n 3, 1) := by decide +kernel
theorem kd_M_release_83 : decode kc_M_release 83 = .ok (.lreturn, 1) := by decide +kernel
theorem kd_M_export_0 : decode kc_M_export 0 = .ok (.aload_n 0, 1) := by decide +kernel
theorem kd_M_export_1 : decode kc_M_export 1 = .ok (.iload_n 1, 1) := by decide +kernel
theorem kd_M_export_2 : decode kc_M_export 2 = .ok (.iconst 0, 1) := by decide +kernel
theorem kd_M_export_3 : decode kc_M_export 3 = .ok (.bipush 15, 2) := by decide +kernel
theorem kd_M_export_5 : decode kc_M_export 5 = .ok (.invokestatic 204, 3) := by decide +kernel
theorem kd_M_export_8 : decode kc_M_export 8 = .ok (.ifCond .eq 11, 3) := by decide +kernel
theorem kd_M_export_11 : decode kc_M_export 11 = .ok (.iconst 0, 1) := by decide +kernel
theorem kd_M_export_12 : decode kc_M_export 12 = .ok (.iload_n 2, 1) := by decide +kernel
theorem kd_M_export_13 : decode kc_M_export 13 = .ok (.invokestatic 258, 3) := by decide +kernel
theorem kd_M_export_16 : decode kc_M_export 16 = .ok (.ifCond .ne 7, 3) := by decide +kernel
theorem kd_M_export_19 : decode kc_M_export 19 = .ok (.iconst 1, 1) := by decide +kernel
theorem kd_M_export_20 : decode kc_M_export 20 = .ok (.goto 18, 3) := by decide +kernel
theorem kd_M_export_23 : decode kc_M_export 23 = .ok (.aload_n 0, 1) := by decide +kernel
theorem kd_M_export_24 : decode kc_M_export 24 = .ok (.iload_n 1, 1) := by decide +kernel
theorem kd_M_export_25 : decode kc_M_export 25 = .ok (.iconst 0, 1) := by decide +kernel
theorem kd_M_export_26 : decode kc_M_export 26 = .ok (.invokevirtual 319, 3) := by decide +kernel
theorem kd_M_export_29 : decode kc_M_export 29 = .ok (.iload_n 2, 1) := by decide +kernel
theorem kd_M_export_30 : decode kc_M_export 30 = .ok (.if_icmp .ge 7, 3) := by decide +kernel
theorem kd_M_export_33 : decode kc_M_export 33 = .ok (.iconst 2, 1) := by decide +kernel
theorem kd_M_export_34 : decode kc_M_export 34 = .ok (.goto 4, 3) := by decide +kernel
theorem kd_M_export_37 : decode kc_M_export 37 = .ok (.iconst 0, 1) := by decide +kernel
theorem kd_M_export_38 : decode kc_M_export 38 = .ok (.putfield 190, 3) := by decide +kernel
theorem kd_M_export_41 : decode kc_M_export 41 = .ok (.aload_n 0, 1) := by decide +kernel
theorem kd_M_export_42 : decode kc_M_export 42 = .ok (.getfield 190, 3) := by decide +kernel
theorem kd_M_export_45 : decode kc_M_export 45 = .ok (.ifCond .le 5, 3) := by decide +kernel
theorem kd_M_export_48 : decode kc_M_export 48 = .ok (.lconst 0, 1) := by decide +kernel
theorem kd_M_export_49 : decode kc_M_export 49 = .ok (.lreturn, 1) := by decide +kernel
theorem kd_M_export_50 : decode kc_M_export 50 = .ok (.aload_n 0, 1) := by decide +kernel
theorem kd_M_export_51 : decode kc_M_export 51 = .ok (.iload_n 1, 1) := by decide +kernel
theorem kd_M_export_52 : decode kc_M_export 52 = .ok (.iload_n 2, 1) := by decide +kernel
theorem kd_M_export_53 : decode kc_M_export 53 = .ok (.iconst 0, 1) := by decide +kernel
theorem kd_M_export_54 : decode kc_M_export 54 = .ok (.invokevirtual 323, 3) := by decide +kernel
theorem kd_M_export_57 : decode kc_M_export 57 = .ok (.lstore_n 3, 1) := by decide +kernel
theorem kd_M_export_58 : decode kc_M_export 58 = .ok (.aload_n 0, 1) := by decide +kernel
theorem kd_M_export_59 : decode kc_M_export 59 = .ok (.aload_n 0, 1) := by decide +kernel
theorem kd_M_export_60 : decode kc_M_export 60 = .ok (.getfield 327, 3) := by decide +kernel
theorem kd_M_export_63 : decode kc_M_export 63 = .ok (.lload_n 3, 1) := by decide +kernel
theorem kd_M_export_64 : decode kc_M_export 64 = .ok (.ladd, 1) := by decide +kernel
theorem kd_M_export_65 : decode kc_M_export 65 = .ok (.putfield 327, 3) := by decide +kernel
theorem kd_M_export_68 : decode kc_M_export 68 = .ok (.lload_n 3, 1) := by decide +kernel
theorem kd_M_export_69 : decode kc_M_export 69 = .ok (.lreturn, 1) := by decide +kernel
theorem kd_M_work_0 : decode kc_M_work 0 = .ok (.iload_n 1, 1) := by decide +kernel
theorem kd_M_work_1 : decode kc_M_work 1 = .ok (.iconst 0, 1) := by decide +kernel
theorem kd_M_work_2 : decode kc_M_work 2 = .ok (.bipush 15, 2) := by decide +kernel
theorem kd_M_work_4 : decode kc_M_work 4 = .ok (.invokestatic 204, 3) := by decide +kernel
theorem kd_M_work_7 : decode kc_M_work 7 = .ok (.ifCond .eq 41, 3) := by decide +kernel
theorem kd_M_work_10 : decode kc_M_work 10 = .ok (.iload_n 3, 1) := by decide +kernel
theorem kd_M_work_11 : decode kc_M_work 11 = .ok (.iconst 0, 1) := by decide +kernel
theorem kd_M_work_12 : decode kc_M_work 12 = .ok (.bipush 15, 2) := by decide +kernel
theorem kd_M_work_14 : decode kc_M_work 14 = .ok (.invokestatic 204, 3) := by decide +kernel
theorem kd_M_work_17 : decode kc_M_work 17 = .ok (.ifCond .eq 31, 3) := by decide +kernel
theorem kd_M_work_20 : decode kc_M_work 20 = .ok (.iload_n 1, 1) := by decide +kernel
theorem kd_M_work_21 : decode kc_M_work 21 = .ok (.iload_n 3, 1) := by decide +kernel
theorem kd_M_work_22 : decode kc_M_work 22 = .ok (.if_icmp .eq 26, 3) := by decide +kernel
theorem kd_M_work_25 : decode kc_M_work 25 = .ok (.iload 4, 2) := by decide +kernel
theorem kd_M_work_27 : decode kc_M_work 27 = .ok (.iconst 1, 1) := by decide +kernel
theorem kd_M_work_28 : decode kc_M_work 28 = .ok (.if_icmp .lt 20, 3) := by decide +kernel
theorem kd_M_work_31 : decode kc_M_work 31 = .ok (.iload 4, 2) := by decide +kernel
theorem kd_M_work_33 : decode kc_M_work 33 = .ok (.iload_n 2, 1) := by decide +kernel
theorem kd_M_work_34 : decode kc_M_work 34 = .ok (.if_icmp .gt 14, 3) := by decide +kernel
theorem kd_M_work_37 : decode kc_M_work 37 = .ok (.iload_n 2, 1) := by decide +kernel
theorem kd_M_work_38 : decode kc_M_work 38 = .ok (.sipush 1000, 3) := by decide +kernel
theorem kd_M_work_41 : decode kc_M_work 41 = .ok (.if_icmp .gt 7, 3) := by decide +kernel
theorem kd_M_work_44 : decode kc_M_work 44 = .ok (.iconst 1, 1) := by decide +kernel
theorem kd_M_work_45 : decode kc_M_work 45 = .ok (.goto 4, 3) := by decide +kernel
theorem kd_M_work_48 : decode kc_M_work 48 = .ok (.iconst 0, 1) := by decide +kernel
theorem kd_M_work_49 : decode kc_M_work 49 = .ok (.istore 5, 2) := by decide +kernel
theorem kd_M_work_51 : decode kc_M_work 51 = .ok (.aload_n 0, 1) := by decide +kernel
theorem kd_M_work_52 : decode kc_M_work 52 = .ok (.iload 5, 2) := by decide +kernel
theorem kd_M_work_54 : decode kc_M_work 54 = .ok (.ifCond .ne 7, 3) := by decide +kernel
theorem kd_M_work_57 : decode kc_M_work 57 = .ok (.iconst 1, 1) := by decide +kernel
theorem kd_M_work_58 : decode kc_M_work 58 = .ok (.goto 31, 3) := by decide +kernel
theorem kd_M_work_61 : decode kc_M_work 61 = .ok (.aload_n 0, 1) := by decide +kernel
theorem kd_M_work_62 : decode kc_M_work 62 = .ok (.iload_n 1, 1) := by decide +kernel
theorem kd_M_work_63 : decode kc_M_work 63 = .ok (.iconst 1, 1) := by decide +kernel
theorem kd_M_work_64 : decode kc_M_work 64 = .ok (.invokevirtual 319, 3) := by decide +kernel
theorem kd_M_work_67 : decode kc_M_work 67 = .ok (.iload_n 2, 1) := by decide +kernel
theorem kd_M_work_68 : decode kc_M_work 68 = .ok (.if_icmp .ge 7, 3) := by decide +kernel
theorem kd_M_work_71 : decode kc_M_work 71 = .ok (.iconst 2, 1) := by decide +kernel
theorem kd_M_work_72 : decode kc_M_work 72 = .ok (.goto 17, 3) := by decide +kernel
theorem kd_M_work_75 : decode kc_M_work 75 = .ok (.aload_n 0, 1) := by decide +kernel
theorem kd_M_work_76 : decode kc_M_work 76 = .ok (.getfield 299, 3) := by decide +kernel
theorem kd_M_work_79 : decode kc_M_work 79 = .ok (.bipush 40, 2) := by decide +kernel
theorem kd_M_work_81 : decode kc_M_work 81 = .ok (.if_icmp .ne 7, 3) := by decide +kernel
theorem kd_M_work_84 : decode kc_M_work 84 = .ok (.iconst 3, 1) := by decide +kernel
theorem kd_M_work_85 : decode kc_M_work 85 = .ok (.goto 4, 3) := by decide +kernel
theorem kd_M_work_88 : decode kc_M_work 88 = .ok (.iconst 0, 1) := by decide +kernel
theorem kd_M_work_89 : decode kc_M_work 89 = .ok (.putfield 190, 3) := by decide +kernel
theorem kd_M_work_92 : decode kc_M_work 92 = .ok (.aload_n 0, 1) := by decide +kernel
theorem kd_M_work_93 : decode kc_M_work 93 = .ok (.getfield 190, 3) := by decide +kernel
theorem kd_M_work_96 : decode kc_M_work 96 = .ok (.ifCond .le 5, 3) := by decide +kernel
theorem kd_M_work_99 : decode kc_M_work 99 = .ok (.iconst 0, 1) := by decide +kernel
theorem kd_M_work_100 : decode kc_M_work 100 = .ok (.ireturn, 1) := by decide +kernel
theorem kd_M_work_101 : decode kc_M_work 101 = .ok (.aload_n 0, 1) := by decide +kernel
theorem kd_M_work_102 : decode kc_M_work 102 = .ok (.iload_n 1, 1) := by decide +kernel
theorem kd_M_work_103 : decode kc_M_work 103 = .ok (.iload_n 2, 1) := by decide +kernel
theorem kd_M_work_104 : decode kc_M_work 104 = .ok (.iconst 1, 1) := by decide +kernel
theorem kd_M_work_105 : decode kc_M_work 105 = .ok (.invokevirtual 323, 3) := by decide +kernel
theorem kd_M_work_108 : decode kc_M_work 108 = .ok (.lstore 6, 2) := by decide +kernel
theorem kd_M_work_110 : decode kc_M_work 110 = .ok (.aload_n 0, 1) := by decide +kernel
theorem kd_M_work_111 : decode kc_M_work 111 = .ok (.getfield 184, 3) := by decide +kernel
theorem kd_M_work_114 : decode kc_M_work 114 = .ok (.iload_n 1, 1) := by decide +kernel
theorem kd_M_work_115 : decode kc_M_work 115 = .ok (.aload_n 0, 1) := by decide +kernel
theorem kd_M_work_116 : decode kc_M_work 116 = .ok (.getfield 184, 3) := by decide +kernel
theorem kd_M_work_119 : decode kc_M_work 119 = .ok (.iload_n 1, 1) := by decide +kernel
theorem kd_M_work_120 : decode kc_M_work 120 = .ok (.iaload, 1) := by decide +kernel
theorem kd_M_work_121 : decode kc_M_work 121 = .ok (.iload_n 2, 1) := by decide +kernel
theorem kd_M_work_122 : decode kc_M_work 122 = .ok (.iadd, 1) := by decide +kernel
theorem kd_M_work_123 : decode kc_M_work 123 = .ok (.iastore, 1) := by decide +kernel
theorem kd_M_work_124 : decode kc_M_work 124 = .ok (.aload_n 0, 1) := by decide +kernel
theorem kd_M_work_125 : decode kc_M_work 125 = .ok (.getfield 187, 3) := by decide +kernel
theorem kd_M_work_128 : decode kc_M_work 128 = .ok (.iload_n 1, 1) := by decide +kernel
theorem kd_M_work_129 : decode kc_M_work 129 = .ok (.aload_n 0, 1) := by decide +kernel
theorem kd_M_work_130 : decode kc_M_work 130 = .ok (.getfield 187, 3) := by decide +kernel
theorem kd_M_work_133 : decode kc_M_work 133 = .ok (.iload_n 1, 1) := by decide +kernel
theorem kd_M_work_134 : decode kc_M_work 134 = .ok (.iaload, 1) := by decide +kernel
theorem kd_M_work_135 : decode kc_M_work 135 = .ok (.iload_n 2, 1) := by decide +kernel
theorem kd_M_work_136 : decode kc_M_work 136 = .ok (.iadd, 1) := by decide +kernel
theorem kd_M_work_137 : decode kc_M_work 137 = .ok (.iload 4, 2) := by decide +kernel
theorem kd_M_work_139 : decode kc_M_work 139 = .ok (.isub, 1) := by decide +kernel
theorem kd_M_work_140 : decode kc_M_work 140 = .ok (.iastore, 1) := by decide +kernel
theorem kd_M_work_141 : decode kc_M_work 141 = .ok (.aload_n 0, 1) := by decide +kernel
theorem kd_M_work_142 : decode kc_M_work 142 = .ok (.iload_n 3, 1) := by decide +kernel
theorem kd_M_work_143 : decode kc_M_work 143 = .ok (.iload 4, 2) := by decide +kernel
theorem kd_M_work_145 : decode kc_M_work 145 = .ok (.lload 6, 2) := by decide +kernel
theorem kd_M_work_147 : decode kc_M_work 147 = .ok (.iconst 1, 1) := by decide +kernel
theorem kd_M_work_148 : decode kc_M_work 148 = .ok (.iconst 1, 1) := by decide +kernel
theorem kd_M_work_149 : decode kc_M_work 149 = .ok (.invokevirtual 308, 3) := by decide +kernel
theorem kd_M_work_152 : decode kc_M_work 152 = .ok (.ireturn, 1) := by decide +kernel
theorem kd_M_lot_0 : decode kc_M_lot 0 = .ok (.aload_n 0, 1) := by decide +kernel
theorem kd_M_lot_1 : decode kc_M_lot 1 = .ok (.iload_n 1, 1) := by decide +kernel
theorem kd_M_lot_2 : decode kc_M_lot 2 = .ok (.ifCond .lt 24, 3) := by decide +kernel
theorem kd_M_lot_5 : decode kc_M_lot 5 = .ok (.iload_n 1, 1) := by decide +kernel
theorem kd_M_lot_6 : decode kc_M_lot 6 = .ok (.aload_n 0, 1) := by decide +kernel
theorem kd_M_lot_7 : decode kc_M_lot 7 = .ok (.getfield 299, 3) := by decide +kernel
theorem kd_M_lot_10 : decode kc_M_lot 10 = .ok (.if_icmp .ge 16, 3) := by decide +kernel
theorem kd_M_lot_13 : decode kc_M_lot 13 = .ok (.iload_n 2, 1) := by decide +kernel
theorem kd_M_lot_14 : decode kc_M_lot 14 = .ok (.iconst 0, 1) := by decide +kernel
theorem kd_M_lot_15 : decode kc_M_lot 15 = .ok (.iconst 4, 1) := by decide +kernel
theorem kd_M_lot_16 : decode kc_M_lot 16 = .ok (.invokestatic 204, 3) := by decide +kernel
theorem kd_M_lot_19 : decode kc_M_lot 19 = .ok (.ifCond .eq 7, 3) := by decide +kernel
theorem kd_M_lot_22 : decode kc_M_lot 22 = .ok (.iconst 0, 1) := by decide +kernel
theorem kd_M_lot_23 : decode kc_M_lot 23 = .ok (.goto 4, 3) := by decide +kernel
theorem kd_M_lot_26 : decode kc_M_lot 26 = .ok (.iconst 1, 1) := by decide +kernel
theorem kd_M_lot_27 : decode kc_M_lot 27 = .ok (.putfield 190, 3) := by decide +kernel
theorem kd_M_lot_30 : decode kc_M_lot 30 = .ok (.aload_n 0, 1) := by decide +kernel
theorem kd_M_lot_31 : decode kc_M_lot 31 = .ok (.getfield 190, 3) := by decide +kernel
theorem kd_M_lot_34 : decode kc_M_lot 34 = .ok (.ifCond .le 5, 3) := by decide +kernel
theorem kd_M_lot_37 : decode kc_M_lot 37 = .ok (.lconst 0, 1) := by decide +kernel
theorem kd_M_lot_38 : decode kc_M_lot 38 = .ok (.lreturn, 1) := by decide +kernel
theorem kd_M_lot_39 : decode kc_M_lot 39 = .ok (.iload_n 2, 1) := by decide +kernel
theorem kd_M_lot_40 : decode kc_M_lot 40 = .ok (.tableswitch 63 0 3 #[32, 40, 48, 56], 32) := by decide +kernel
theorem kd_M_lot_72 : decode kc_M_lot 72 = .ok (.aload_n 0, 1) := by decide +kernel
theorem kd_M_lot_73 : decode kc_M_lot 73 = .ok (.getfield 163, 3) := by decide +kernel
theorem kd_M_lot_76 : decode kc_M_lot 76 = .ok (.iload_n 1, 1) := by decide +kernel
theorem kd_M_lot_77 : decode kc_M_lot 77 = .ok (.iaload, 1) := by decide +kernel
theorem kd_M_lot_78 : decode kc_M_lot 78 = .ok (.i2l, 1) := by decide +kernel
theorem kd_M_lot_79 : decode kc_M_lot 79 = .ok (.lreturn, 1) := by decide +kernel
theorem kd_M_lot_80 : decode kc_M_lot 80 = .ok (.aload_n 0, 1) := by decide +kernel
theorem kd_M_lot_81 : decode kc_M_lot 81 = .ok (.getfield 166, 3) := by decide +kernel
theorem kd_M_lot_84 : decode kc_M_lot 84 = .ok (.iload_n 1, 1) := by decide +kernel
theorem kd_M_lot_85 : decode kc_M_lot 85 = .ok (.iaload, 1) := by decide +kernel
theorem kd_M_lot_86 : decode kc_M_lot 86 = .ok (.i2l, 1) := by decide +kernel
theorem kd_M_lot_87 : decode kc_M_lot 87 = .ok (.lreturn, 1) := by decide +kernel
theorem kd_M_lot_88 : decode kc_M_lot 88 = .ok (.aload_n 0, 1) := by decide +kernel
theorem kd_M_lot_89 : decode kc_M_lot 89 = .ok (.getfield 169, 3) := by decide +kernel
theorem kd_M_lot_92 : decode kc_M_lot 92 = .ok (.iload_n 1, 1) := by decide +kernel
theorem kd_M_lot_93 : decode kc_M_lot 93 = .ok (.iaload, 1) := by decide +kernel
theorem kd_M_lot_94 : decode kc_M_lot 94 = .ok (.i2l, 1) := by decide +kernel
theorem kd_M_lot_95 : decode kc_M_lot 95 = .ok (.lreturn, 1) := by decide +kernel
theorem kd_M_lot_96 : decode kc_M_lot 96 = .ok (.aload_n 0, 1) := by decide +kernel
theorem kd_M_lot_97 : decode kc_M_lot 97 = .ok (.getfield 172, 3) := by decide +kernel
