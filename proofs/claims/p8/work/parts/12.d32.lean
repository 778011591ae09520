theorem kd_M_workOut_42 : decode kc_M_workOut 42 = .ok (.iaload, 1) := by decide +kernel
theorem kd_M_workOut_43 : decode kc_M_workOut 43 = .ok (.aload_n 0, 1) := by decide +kernel
theorem kd_M_workOut_44 : decode kc_M_workOut 44 = .ok (.getfield 157, 3) := by decide +kernel
theorem kd_M_workOut_47 : decode kc_M_workOut 47 = .ok (.iload 4, 2) := by decide +kernel
theorem kd_M_workOut_49 : decode kc_M_workOut 49 = .ok (.iaload, 1) := by decide +kernel
theorem kd_M_workOut_50 : decode kc_M_workOut 50 = .ok (.isub, 1) := by decide +kernel
theorem kd_M_workOut_51 : decode kc_M_workOut 51 = .ok (.istore 6, 2) := by decide +kernel
theorem kd_M_workOut_53 : decode kc_M_workOut 53 = .ok (.iload 5, 2) := by decide +kernel
theorem kd_M_workOut_55 : decode kc_M_workOut 55 = .ok (.ifCond .ge 7, 3) := by decide +kernel
theorem kd_M_workOut_58 : decode kc_M_workOut 58 = .ok (.iconst 0, 1) := by decide +kernel
theorem kd_M_workOut_59 : decode kc_M_workOut 59 = .ok (.goto 27, 3) := by decide +kernel
theorem kd_M_workOut_62 : decode kc_M_workOut 62 = .ok (.iload 6, 2) := by decide +kernel
theorem kd_M_workOut_64 : decode kc_M_workOut 64 = .ok (.aload_n 0, 1) := by decide +kernel
theorem kd_M_workOut_65 : decode kc_M_workOut 65 = .ok (.getfield 70, 3) := by decide +kernel
theorem kd_M_workOut_68 : decode kc_M_workOut 68 = .ok (.iload 5, 2) := by decide +kernel
theorem kd_M_workOut_70 : decode kc_M_workOut 70 = .ok (.iaload, 1) := by decide +kernel
theorem kd_M_workOut_71 : decode kc_M_workOut 71 = .ok (.if_icmp .ge 8, 3) := by decide +kernel
theorem kd_M_workOut_74 : decode kc_M_workOut 74 = .ok (.iload 6, 2) := by decide +kernel
theorem kd_M_workOut_76 : decode kc_M_workOut 76 = .ok (.goto 10, 3) := by decide +kernel
theorem kd_M_workOut_79 : decode kc_M_workOut 79 = .ok (.aload_n 0, 1) := by decide +kernel
theorem kd_M_workOut_80 : decode kc_M_workOut 80 = .ok (.getfield 70, 3) := by decide +kernel
theorem kd_M_workOut_83 : decode kc_M_workOut 83 = .ok (.iload 5, 2) := by decide +kernel
theorem kd_M_workOut_85 : decode kc_M_workOut 85 = .ok (.iaload, 1) := by decide +kernel
theorem kd_M_workOut_86 : decode kc_M_workOut 86 = .ok (.istore 7, 2) := by decide +kernel
theorem kd_M_workOut_88 : decode kc_M_workOut 88 = .ok (.aload_n 0, 1) := by decide +kernel
theorem kd_M_workOut_89 : decode kc_M_workOut 89 = .ok (.getfield 157, 3) := by decide +kernel
theorem kd_M_workOut_92 : decode kc_M_workOut 92 = .ok (.iload 4, 2) := by decide +kernel
theorem kd_M_workOut_94 : decode kc_M_workOut 94 = .ok (.aload_n 0, 1) := by decide +kernel
theorem kd_M_workOut_95 : decode kc_M_workOut 95 = .ok (.getfield 157, 3) := by decide +kernel
theorem kd_M_workOut_98 : decode kc_M_workOut 98 = .ok (.iload 4, 2) := by decide +kernel
theorem kd_M_workOut_100 : decode kc_M_workOut 100 = .ok (.iaload, 1) := by decide +kernel
theorem kd_M_workOut_101 : decode kc_M_workOut 101 = .ok (.iload 7, 2) := by decide +kernel
theorem kd_M_workOut_103 : decode kc_M_workOut 103 = .ok (.iadd, 1) := by decide +kernel
theorem kd_M_workOut_104 : decode kc_M_workOut 104 = .ok (.iastore, 1) := by decide +kernel
theorem kd_M_workOut_105 : decode kc_M_workOut 105 = .ok (.iload 5, 2) := by decide +kernel
theorem kd_M_workOut_107 : decode kc_M_workOut 107 = .ok (.ifCond .lt 20, 3) := by decide +kernel
theorem kd_M_workOut_110 : decode kc_M_workOut 110 = .ok (.aload_n 0, 1) := by decide +kernel
theorem kd_M_workOut_111 : decode kc_M_workOut 111 = .ok (.getfield 70, 3) := by decide +kernel
theorem kd_M_workOut_114 : decode kc_M_workOut 114 = .ok (.iload 5, 2) := by decide +kernel
theorem kd_M_workOut_116 : decode kc_M_workOut 116 = .ok (.aload_n 0, 1) := by decide +kernel
theorem kd_M_workOut_117 : decode kc_M_workOut 117 = .ok (.getfield 70, 3) := by decide +kernel
theorem kd_M_workOut_120 : decode kc_M_workOut 120 = .ok (.iload 5, 2) := by decide +kernel
theorem kd_M_workOut_122 : decode kc_M_workOut 122 = .ok (.iaload, 1) := by decide +kernel
theorem kd_M_workOut_123 : decode kc_M_workOut 123 = .ok (.iload 7, 2) := by decide +kernel
theorem kd_M_workOut_125 : decode kc_M_workOut 125 = .ok (.isub, 1) := by decide +kernel
theorem kd_M_workOut_126 : decode kc_M_workOut 126 = .ok (.iastore, 1) := by decide +kernel
theorem kd_M_workOut_127 : decode kc_M_workOut 127 = .ok (.aload_n 0, 1) := by decide +kernel
theorem kd_M_workOut_128 : decode kc_M_workOut 128 = .ok (.getfield 160, 3) := by decide +kernel
theorem kd_M_workOut_131 : decode kc_M_workOut 131 = .ok (.iload 4, 2) := by decide +kernel
theorem kd_M_workOut_133 : decode kc_M_workOut 133 = .ok (.aload_n 0, 1) := by decide +kernel
theorem kd_M_workOut_134 : decode kc_M_workOut 134 = .ok (.iload_n 1, 1) := by decide +kernel
theorem kd_M_workOut_135 : decode kc_M_workOut 135 = .ok (.iload 4, 2) := by decide +kernel
theorem kd_M_workOut_137 : decode kc_M_workOut 137 = .ok (.invokevirtual 279, 3) := by decide +kernel
theorem kd_M_workOut_140 : decode kc_M_workOut 140 = .ok (.lastore, 1) := by decide +kernel
theorem kd_M_workOut_141 : decode kc_M_workOut 141 = .ok (.lload_n 2, 1) := by decide +kernel
theorem kd_M_workOut_142 : decode kc_M_workOut 142 = .ok (.aload_n 0, 1) := by decide +kernel
theorem kd_M_workOut_143 : decode kc_M_workOut 143 = .ok (.getfield 160, 3) := by decide +kernel
theorem kd_M_workOut_146 : decode kc_M_workOut 146 = .ok (.iload 4, 2) := by decide +kernel
theorem kd_M_workOut_148 : decode kc_M_workOut 148 = .ok (.laload, 1) := by decide +kernel
theorem kd_M_workOut_149 : decode kc_M_workOut 149 = .ok (.ladd, 1) := by decide +kernel
theorem kd_M_workOut_150 : decode kc_M_workOut 150 = .ok (.lstore_n 2, 1) := by decide +kernel
theorem kd_M_workOut_151 : decode kc_M_workOut 151 = .ok (.iinc 4 1, 3) := by decide +kernel
theorem kd_M_workOut_154 : decode kc_M_workOut 154 = .ok (.goto (-144), 3) := by decide +kernel
theorem kd_M_workOut_157 : decode kc_M_workOut 157 = .ok (.lload_n 2, 1) := by decide +kernel
theorem kd_M_workOut_158 : decode kc_M_workOut 158 = .ok (.lreturn, 1) := by decide +kernel
theorem kd_M_mean_0 : decode kc_M_mean 0 = .ok (.iconst 0, 1) := by decide +kernel
theorem kd_M_mean_1 : decode kc_M_mean 1 = .ok (.istore_n 1, 1) := by decide +kernel
theorem kd_M_mean_2 : decode kc_M_mean 2 = .ok (.iload_n 1, 1) := by decide +kernel
theorem kd_M_mean_3 : decode kc_M_mean 3 = .ok (.aload_n 0, 1) := by decide +kernel
theorem kd_M_mean_4 : decode kc_M_mean 4 = .ok (.getfield 239, 3) := by decide +kernel
theorem kd_M_mean_7 : decode kc_M_mean 7 = .ok (.if_icmp .ge 21, 3) := by decide +kernel
theorem kd_M_mean_10 : decode kc_M_mean 10 = .ok (.aload_n 0, 1) := by decide +kernel
theorem kd_M_mean_11 : decode kc_M_mean 11 = .ok (.getfield 70, 3) := by decide +kernel
theorem kd_M_mean_14 : decode kc_M_mean 14 = .ok (.iload_n 1, 1) := by decide +kernel
theorem kd_M_mean_15 : decode kc_M_mean 15 = .ok (.aload_n 0, 1) := by decide +kernel
theorem kd_M_mean_16 : decode kc_M_mean 16 = .ok (.getfield 67, 3) := by decide +kernel
theorem kd_M_mean_19 : decode kc_M_mean 19 = .ok (.iload_n 1, 1) := by decide +kernel
theorem kd_M_mean_20 : decode kc_M_mean 20 = .ok (.iaload, 1) := by decide +kernel
theorem kd_M_mean_21 : decode kc_M_mean 21 = .ok (.iastore, 1) := by decide +kernel
theorem kd_M_mean_22 : decode kc_M_mean 22 = .ok (.iinc 1 1, 3) := by decide +kernel
theorem kd_M_mean_25 : decode kc_M_mean 25 = .ok (.goto (-23), 3) := by decide +kernel
theorem kd_M_mean_28 : decode kc_M_mean 28 = .ok (.return_, 1) := by decide +kernel
theorem kd_M_assess_0 : decode kc_M_assess 0 = .ok (.aload_n 0, 1) := by decide +kernel
theorem kd_M_assess_1 : decode kc_M_assess 1 = .ok (.invokevirtual 283, 3) := by decide +kernel
theorem kd_M_assess_4 : decode kc_M_assess 4 = .ok (.iconst 0, 1) := by decide +kernel
theorem kd_M_assess_5 : decode kc_M_assess 5 = .ok (.istore_n 2, 1) := by decide +kernel
theorem kd_M_assess_6 : decode kc_M_assess 6 = .ok (.iload_n 2, 1) := by decide +kernel
theorem kd_M_assess_7 : decode kc_M_assess 7 = .ok (.iconst 4, 1) := by decide +kernel
theorem kd_M_assess_8 : decode kc_M_assess 8 = .ok (.if_icmp .ge 16, 3) := by decide +kernel
theorem kd_M_assess_11 : decode kc_M_assess 11 = .ok (.aload_n 0, 1) := by decide +kernel
theorem kd_M_assess_12 : decode kc_M_assess 12 = .ok (.getfield 157, 3) := by decide +kernel
theorem kd_M_assess_15 : decode kc_M_assess 15 = .ok (.iload_n 2, 1) := by decide +kernel
theorem kd_M_assess_16 : decode kc_M_assess 16 = .ok (.iconst 0, 1) := by decide +kernel
theorem kd_M_assess_17 : decode kc_M_assess 17 = .ok (.iastore, 1) := by decide +kernel
theorem kd_M_assess_18 : decode kc_M_assess 18 = .ok (.iinc 2 1, 3) := by decide +kernel
theorem kd_M_assess_21 : decode kc_M_assess 21 = .ok (.goto (-15), 3) := by decide +kernel
theorem kd_M_assess_24 : decode kc_M_assess 24 = .ok (.aload_n 0, 1) := by decide +kernel
theorem kd_M_assess_25 : decode kc_M_assess 25 = .ok (.iload_n 1, 1) := by decide +kernel
theorem kd_M_assess_26 : decode kc_M_assess 26 = .ok (.invokevirtual 286, 3) := by decide +kernel
theorem kd_M_assess_29 : decode kc_M_assess 29 = .ok (.lreturn, 1) := by decide +kernel
theorem kd_M_book_0 : decode kc_M_book 0 = .ok (.iconst 0, 1) := by decide +kernel
theorem kd_M_book_1 : decode kc_M_book 1 = .ok (.istore_n 2, 1) := by decide +kernel
theorem kd_M_book_2 : decode kc_M_book 2 = .ok (.iload_n 2, 1) := by decide +kernel
theorem kd_M_book_3 : decode kc_M_book 3 = .ok (.aload_n 0, 1) := by decide +kernel
theorem kd_M_book_4 : decode kc_M_book 4 = .ok (.getfield 239, 3) := by decide +kernel
theorem kd_M_book_7 : decode kc_M_book 7 = .ok (.if_icmp .ge 21, 3) := by decide +kernel
theorem kd_M_book_10 : decode kc_M_book 10 = .ok (.aload_n 0, 1) := by decide +kernel
theorem kd_M_book_11 : decode kc_M_book 11 = .ok (.getfield 67, 3) := by decide +kernel
theorem kd_M_book_14 : decode kc_M_book 14 = .ok (.iload_n 2, 1) := by decide +kernel
theorem kd_M_book_15 : decode kc_M_book 15 = .ok (.aload_n 0, 1) := by decide +kernel
theorem kd_M_book_16 : decode kc_M_book 16 = .ok (.getfield 70, 3) := by decide +kernel
theorem kd_M_book_19 : decode kc_M_book 19 = .ok (.iload_n 2, 1) := by decide +kernel
theorem kd_M_book_20 : decode kc_M_book 20 = .ok (.iaload, 1) := by decide +kernel
theorem kd_M_book_21 : decode kc_M_book 21 = .ok (.iastore, 1) := by decide +kernel
theorem kd_M_book_22 : decode kc_M_book 22 = .ok (.iinc 2 1, 3) := by decide +kernel
theorem kd_M_book_25 : decode kc_M_book 25 = .ok (.goto (-23), 3) := by decide +kernel
theorem kd_M_book_28 : decode kc_M_book 28 = .ok (.iconst 0, 1) := by decide +kernel
theorem kd_M_book_29 : decode kc_M_book 29 = .ok (.istore_n 2, 1) := by decide +kernel
theorem kd_M_book_30 : decode kc_M_book 30 = .ok (.iload_n 2, 1) := by decide +kernel
theorem kd_M_book_31 : decode kc_M_book 31 = .ok (.aload_n 0, 1) := by decide +kernel
theorem kd_M_book_32 : decode kc_M_book 32 = .ok (.getfield 107, 3) := by decide +kernel
theorem kd_M_book_35 : decode kc_M_book 35 = .ok (.iload_n 1, 1) := by decide +kernel
theorem kd_M_book_36 : decode kc_M_book 36 = .ok (.iaload, 1) := by decide +kernel
theorem kd_M_book_37 : decode kc_M_book 37 = .ok (.if_icmp .ge 57, 3) := by decide +kernel
theorem kd_M_book_40 : decode kc_M_book 40 = .ok (.aload_n 0, 1) := by decide +kernel
theorem kd_M_book_41 : decode kc_M_book 41 = .ok (.getfield 142, 3) := by decide +kernel
theorem kd_M_book_44 : decode kc_M_book 44 = .ok (.iconst 4, 1) := by decide +kernel
theorem kd_M_book_45 : decode kc_M_book 45 = .ok (.iload_n 1, 1) := by decide +kernel
theorem kd_M_book_46 : decode kc_M_book 46 = .ok (.imul, 1) := by decide +kernel
theorem kd_M_book_47 : decode kc_M_book 47 = .ok (.iload_n 2, 1) := by decide +kernel
theorem kd_M_book_48 : decode kc_M_book 48 = .ok (.iadd, 1) := by decide +kernel
theorem kd_M_book_49 : decode kc_M_book 49 = .ok (.aload_n 0, 1) := by decide +kernel
theorem kd_M_book_50 : decode kc_M_book 50 = .ok (.getfield 154, 3) := by decide +kernel
theorem kd_M_book_53 : decode kc_M_book 53 = .ok (.iload_n 2, 1) := by decide +kernel
theorem kd_M_book_54 : decode kc_M_book 54 = .ok (.iaload, 1) := by decide +kernel
theorem kd_M_book_55 : decode kc_M_book 55 = .ok (.iastore, 1) := by decide +kernel
theorem kd_M_book_56 : decode kc_M_book 56 = .ok (.aload_n 0, 1) := by decide +kernel
theorem kd_M_book_57 : decode kc_M_book 57 = .ok (.getfield 145, 3) := by decide +kernel
theorem kd_M_book_60 : decode kc_M_book 60 = .ok (.iconst 4, 1) := by decide +kernel
theorem kd_M_book_61 : decode kc_M_book 61 = .ok (.iload_n 1, 1) := by decide +kernel
theorem kd_M_book_62 : decode kc_M_book 62 = .ok (.imul, 1) := by decide +kernel
theorem kd_M_book_63 : decode kc_M_book 63 = .ok (.iload_n 2, 1) := by decide +kernel
theorem kd_M_book_64 : decode kc_M_book 64 = .ok (.iadd, 1) := by decide +kernel
theorem kd_M_book_65 : decode kc_M_book 65 = .ok (.aload_n 0, 1) := by decide +kernel
theorem kd_M_book_66 : decode kc_M_book 66 = .ok (.getfield 157, 3) := by decide +kernel
theorem kd_M_book_69 : decode kc_M_book 69 = .ok (.iload_n 2, 1) := by decide +kernel
theorem kd_M_book_70 : decode kc_M_book 70 = .ok (.iaload, 1) := by decide +kernel
theorem kd_M_book_71 : decode kc_M_book 71 = .ok (.iastore, 1) := by decide +kernel
theorem kd_M_book_72 : decode kc_M_book 72 = .ok (.aload_n 0, 1) := by decide +kernel
theorem kd_M_book_73 : decode kc_M_book 73 = .ok (.getfield 148, 3) := by decide +kernel
theorem kd_M_book_76 : decode kc_M_book 76 = .ok (.iconst 4, 1) := by decide +kernel
theorem kd_M_book_77 : decode kc_M_book 77 = .ok (.iload_n 1, 1) := by decide +kernel
theorem kd_M_book_78 : decode kc_M_book 78 = .ok (.imul, 1) := by decide +kernel
theorem kd_M_book_79 : decode kc_M_book 79 = .ok (.iload_n 2, 1) := by decide +kernel
theorem kd_M_book_80 : decode kc_M_book 80 = .ok (.iadd, 1) := by decide +kernel
theorem kd_M_book_81 : decode kc_M_book 81 = .ok (.aload_n 0, 1) := by decide +kernel
theorem kd_M_book_82 : decode kc_M_book 82 = .ok (.getfield 160, 3) := by decide +kernel
theorem kd_M_book_85 : decode kc_M_book 85 = .ok (.iload_n 2, 1) := by decide +kernel
theorem kd_M_book_86 : decode kc_M_book 86 = .ok (.laload, 1) := by decide +kernel
theorem kd_M_book_87 : decode kc_M_book 87 = .ok (.lastore, 1) := by decide +kernel
theorem kd_M_book_88 : decode kc_M_book 88 = .ok (.iinc 2 1, 3) := by decide +kernel
theorem kd_M_book_91 : decode kc_M_book 91 = .ok (.goto (-61), 3) := by decide +kernel
theorem kd_M_book_94 : decode kc_M_book 94 = .ok (.return_, 1) := by decide +kernel
theorem kd_M_lineOf_0 : decode kc_M_lineOf 0 = .ok (.aload_n 0, 1) := by decide +kernel
theorem kd_M_lineOf_1 : decode kc_M_lineOf 1 = .ok (.aload_n 0, 1) := by decide +kernel
theorem kd_M_lineOf_2 : decode kc_M_lineOf 2 = .ok (.iload_n 1, 1) := by decide +kernel
theorem kd_M_lineOf_3 : decode kc_M_lineOf 3 = .ok (.iload_n 2, 1) := by decide +kernel
theorem kd_M_lineOf_4 : decode kc_M_lineOf 4 = .ok (.invokevirtual 290, 3) := by decide +kernel
theorem kd_M_lineOf_7 : decode kc_M_lineOf 7 = .ok (.ifCond .eq 16, 3) := by decide +kernel
theorem kd_M_lineOf_10 : decode kc_M_lineOf 10 = .ok (.iload_n 3, 1) := by decide +kernel
theorem kd_M_lineOf_11 : decode kc_M_lineOf 11 = .ok (.iconst 0, 1) := by decide +kernel
theorem kd_M_lineOf_12 : decode kc_M_lineOf 12 = .ok (.iconst 2, 1) := by decide +kernel
theorem kd_M_lineOf_13 : decode kc_M_lineOf 13 = .ok (.invokestatic 204, 3) := by decide +kernel
theorem kd_M_lineOf_16 : decode kc_M_lineOf 16 = .ok (.ifCond .eq 7, 3) := by decide +kernel
theorem kd_M_lineOf_19 : decode kc_M_lineOf 19 = .ok (.iconst 0, 1) := by decide +kernel
theorem kd_M_lineOf_20 : decode kc_M_lineOf 20 = .ok (.goto 4, 3) := by decide +kernel
theorem kd_M_lineOf_23 : decode kc_M_lineOf 23 = .ok (.iconst 1, 1) := by decide +kernel
theorem kd_M_lineOf_24 : decode kc_M_lineOf 24 = .ok (.putfield 190, 3) := by decide +kernel
theorem kd_M_lineOf_27 : decode kc_M_lineOf 27 = .ok (.aload_n 0, 1) := by decide +kernel
theorem kd_M_lineOf_28 : decode kc_M_lineOf 28 = .ok (.getfield 190, 3) := by decide +kernel
theorem kd_M_lineOf_31 : decode kc_M_lineOf 31 = .ok (.ifCond .le 5, 3) := by decide +kernel
theorem kd_M_lineOf_34 : decode kc_M_lineOf 34 = .ok (.lconst 0, 1) := by decide +kernel
theorem kd_M_lineOf_35 : decode kc_M_lineOf 35 = .ok (.lreturn, 1) := by decide +kernel
theorem kd_M_lineOf_36 : decode kc_M_lineOf 36 = .ok (.iconst 4, 1) := by decide +kernel
theorem kd_M_lineOf_37 : decode kc_M_lineOf 37 = .ok (.iload_n 1, 1) := by decide +kernel
theorem kd_M_lineOf_38 : decode kc_M_lineOf 38 = .ok (.imul, 1) := by decide +kernel
theorem kd_M_lineOf_39 : decode kc_M_lineOf 39 = .ok (.iload_n 2, 1) := by decide +kernel
theorem kd_M_lineOf_40 : decode kc_M_lineOf 40 = .ok (.iadd, 1) := by decide +kernel
theorem kd_M_lineOf_41 : decode kc_M_lineOf 41 = .ok (.istore 4, 2) := by decide +kernel
theorem kd_M_lineOf_43 : decode kc_M_lineOf 43 = .ok (.iload_n 3, 1) := by decide +kernel
theorem kd_M_lineOf_44 : decode kc_M_lineOf 44 = .ok (.ifCond .ne 16, 3) := by decide +kernel
theorem kd_M_lineOf_47 : decode kc_M_lineOf 47 = .ok (.aload_n 0, 1) := by decide +kernel
theorem kd_M_lineOf_48 : decode kc_M_lineOf 48 = .ok (.iload_n 1, 1) := by decide +kernel
theorem kd_M_lineOf_49 : decode kc_M_lineOf 49 = .ok (.invokevirtual 275, 3) := by decide +kernel
theorem kd_M_lineOf_52 : decode kc_M_lineOf 52 = .ok (.aload_n 0, 1) := by decide +kernel
theorem kd_M_lineOf_53 : decode kc_M_lineOf 53 = .ok (.getfield 132, 3) := by decide +kernel
theorem kd_M_lineOf_56 : decode kc_M_lineOf 56 = .ok (.iload 4, 2) := by decide +kernel
theorem kd_M_lineOf_58 : decode kc_M_lineOf 58 = .ok (.laload, 1) := by decide +kernel
theorem kd_M_lineOf_59 : decode kc_M_lineOf 59 = .ok (.lreturn, 1) := by decide +kernel
theorem kd_M_lineOf_60 : decode kc_M_lineOf 60 = .ok (.aload_n 0, 1) := by decide +kernel
theorem kd_M_lineOf_61 : decode kc_M_lineOf 61 = .ok (.getfield 113, 3) := by decide +kernel
theorem kd_M_lineOf_64 : decode kc_M_lineOf 64 = .ok (.iload_n 1, 1) := by decide +kernel
theorem kd_M_lineOf_65 : decode kc_M_lineOf 65 = .ok (.baload, 1) := by decide +kernel
theorem kd_M_lineOf_66 : decode kc_M_lineOf 66 = .ok (.ifCond .eq 27, 3) := by decide +kernel
theorem kd_M_lineOf_69 : decode kc_M_lineOf 69 = .ok (.iload_n 3, 1) := by decide +kernel
theorem kd_M_lineOf_70 : decode kc_M_lineOf 70 = .ok (.iconst 1, 1) := by decide +kernel
theorem kd_M_lineOf_71 : decode kc_M_lineOf 71 = .ok (.if_icmp .ne 14, 3) := by decide +kernel
theorem kd_M_lineOf_74 : decode kc_M_lineOf 74 = .ok (.aload_n 0, 1) := by decide +kernel
theorem kd_M_lineOf_75 : decode kc_M_lineOf 75 = .ok (.getfield 145, 3) := by decide +kernel
theorem kd_M_lineOf_78 : decode kc_M_lineOf 78 = .ok (.iload 4, 2) := by decide +kernel
theorem kd_M_lineOf_80 : decode kc_M_lineOf 80 = .ok (.iaload, 1) := by decide +kernel
theorem kd_M_lineOf_81 : decode kc_M_lineOf 81 = .ok (.i2l, 1) := by decide +kernel
theorem kd_M_lineOf_82 : decode kc_M_lineOf 82 = .ok (.goto 10, 3) := by decide +kernel
theorem kd_M_lineOf_85 : decode kc_M_lineOf 85 = .ok (.aload_n 0, 1) := by decide +kernel
theorem kd_M_lineOf_86 : decode kc_M_lineOf 86 = .ok (.getfield 148, 3) := by decide +kernel
theorem kd_M_lineOf_89 : decode kc_M_lineOf 89 = .ok (.iload 4, 2) := by decide +kernel
theorem kd_M_lineOf_91 : decode kc_M_lineOf 91 = .ok (.laload, 1) := by decide +kernel
theorem kd_M_lineOf_92 : decode kc_M_lineOf 92 = .ok (.lreturn, 1) := by decide +kernel
theorem kd_M_lineOf_93 : decode kc_M_lineOf 93 = .ok (.aload_n 0, 1) := by decide +kernel
theorem kd_M_lineOf_94 : decode kc_M_lineOf 94 = .ok (.aload_n 0, 1) := by decide +kernel
theorem kd_M_lineOf_95 : decode kc_M_lineOf 95 = .ok (.iload_n 1, 1) := by decide +kernel
theorem kd_M_lineOf_96 : decode kc_M_lineOf 96 = .ok (.invokevirtual 293, 3) := by decide +kernel
theorem kd_M_lineOf_99 : decode kc_M_lineOf 99 = .ok (.ifCond .eq 7, 3) := by decide +kernel
theorem kd_M_lineOf_102 : decode kc_M_lineOf 102 = .ok (.iconst 0, 1) := by decide +kernel
theorem kd_M_lineOf_103 : decode kc_M_lineOf 103 = .ok (.goto 4, 3) := by decide +kernel
theorem kd_M_lineOf_106 : decode kc_M_lineOf 106 = .ok (.iconst 2, 1) := by decide +kernel
theorem kd_M_lineOf_107 : decode kc_M_lineOf 107 = .ok (.putfield 190, 3) := by decide +kernel
theorem kd_M_lineOf_110 : decode kc_M_lineOf 110 = .ok (.aload_n 0, 1) := by decide +kernel
theorem kd_M_lineOf_111 : decode kc_M_lineOf 111 = .ok (.getfield 190, 3) := by decide +kernel
theorem kd_M_lineOf_114 : decode kc_M_lineOf 114 = .ok (.ifCond .le 5, 3) := by decide +kernel
theorem kd_M_lineOf_117 : decode kc_M_lineOf 117 = .ok (.lconst 0, 1) := by decide +kernel
theorem kd_M_lineOf_118 : decode kc_M_lineOf 118 = .ok (.lreturn, 1) := by decide +kernel
theorem kd_M_lineOf_119 : decode kc_M_lineOf 119 = .ok (.aload_n 0, 1) := by decide +kernel
theorem kd_M_lineOf_120 : decode kc_M_lineOf 120 = .ok (.iload_n 1, 1) := by decide +kernel
theorem kd_M_lineOf_121 : decode kc_M_lineOf 121 = .ok (.invokevirtual 296, 3) := by decide +kernel
theorem kd_M_lineOf_124 : decode kc_M_lineOf 124 = .ok (.pop2, 1) := by decide +kernel
theorem kd_M_lineOf_125 : decode kc_M_lineOf 125 = .ok (.iload_n 3, 1) := by decide +kernel
theorem kd_M_lineOf_126 : decode kc_M_lineOf 126 = .ok (.iconst 1, 1) := by decide +kernel
theorem kd_M_lineOf_127 : decode kc_M_lineOf 127 = .ok (.if_icmp .ne 13, 3) := by decide +kernel
theorem kd_M_lineOf_130 : decode kc_M_lineOf 130 = .ok (.aload_n 0, 1) := by decide +kernel
theorem kd_M_lineOf_131 : decode kc_M_lineOf 131 = .ok (.getfield 157, 3) := by decide +kernel
theorem kd_M_lineOf_134 : decode kc_M_lineOf 134 = .ok (.iload_n 2, 1) := by decide +kernel
theorem kd_M_lineOf_135 : decode kc_M_lineOf 135 = .ok (.iaload, 1) := by decide +kernel
theorem kd_M_lineOf_136 : decode kc_M_lineOf 136 = .ok (.i2l, 1) := by decide +kernel
theorem kd_M_lineOf_137 : decode kc_M_lineOf 137 = .ok (.goto 9, 3) := by decide +kernel
theorem kd_M_lineOf_140 : decode kc_M_lineOf 140 = .ok (.aload_n 0, 1) := by decide +kernel
theorem kd_M_lineOf_141 : decode kc_M_lineOf 141 = .ok (.getfield 160, 3) := by decide +kernel
theorem kd_M_lineOf_144 : decode kc_M_lineOf 144 = .ok (.iload_n 2, 1) := by decide +kernel
theorem kd_M_lineOf_145 : decode kc_M_lineOf 145 = .ok (.laload, 1) := by decide +kernel
theorem kd_M_lineOf_146 : decode kc_M_lineOf 146 = .ok (.lreturn, 1) := by decide +kernel
