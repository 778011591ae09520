theorem kd_M_rate_33 : decode kc_M_rate 33 = .ok (.invokestatic 204, 3) := by decide +kernel
theorem kd_M_rate_36 : decode kc_M_rate 36 = .ok (.ifCond .eq 19, 3) := by decide +kernel
theorem kd_M_rate_39 : decode kc_M_rate 39 = .ok (.iload 5, 2) := by decide +kernel
theorem kd_M_rate_41 : decode kc_M_rate 41 = .ok (.iconst 0, 1) := by decide +kernel
theorem kd_M_rate_42 : decode kc_M_rate 42 = .ok (.sipush 10000, 3) := by decide +kernel
theorem kd_M_rate_45 : decode kc_M_rate 45 = .ok (.invokestatic 204, 3) := by decide +kernel
theorem kd_M_rate_48 : decode kc_M_rate 48 = .ok (.ifCond .eq 7, 3) := by decide +kernel
theorem kd_M_rate_51 : decode kc_M_rate 51 = .ok (.iconst 1, 1) := by decide +kernel
theorem kd_M_rate_52 : decode kc_M_rate 52 = .ok (.goto 4, 3) := by decide +kernel
theorem kd_M_rate_55 : decode kc_M_rate 55 = .ok (.iconst 0, 1) := by decide +kernel
theorem kd_M_rate_56 : decode kc_M_rate 56 = .ok (.istore 8, 2) := by decide +kernel
theorem kd_M_rate_58 : decode kc_M_rate 58 = .ok (.aload_n 0, 1) := by decide +kernel
theorem kd_M_rate_59 : decode kc_M_rate 59 = .ok (.iload 8, 2) := by decide +kernel
theorem kd_M_rate_61 : decode kc_M_rate 61 = .ok (.ifCond .eq 23, 3) := by decide +kernel
theorem kd_M_rate_64 : decode kc_M_rate 64 = .ok (.iload 6, 2) := by decide +kernel
theorem kd_M_rate_66 : decode kc_M_rate 66 = .ok (.ifCond .lt 18, 3) := by decide +kernel
theorem kd_M_rate_69 : decode kc_M_rate 69 = .ok (.iload 6, 2) := by decide +kernel
theorem kd_M_rate_71 : decode kc_M_rate 71 = .ok (.iload 7, 2) := by decide +kernel
theorem kd_M_rate_73 : decode kc_M_rate 73 = .ok (.if_icmp .gt 11, 3) := by decide +kernel
theorem kd_M_rate_76 : decode kc_M_rate 76 = .ok (.iload 7, 2) := by decide +kernel
theorem kd_M_rate_78 : decode kc_M_rate 78 = .ok (.sipush 9999, 3) := by decide +kernel
theorem kd_M_rate_81 : decode kc_M_rate 81 = .ok (.if_icmp .le 7, 3) := by decide +kernel
theorem kd_M_rate_84 : decode kc_M_rate 84 = .ok (.iconst 1, 1) := by decide +kernel
theorem kd_M_rate_85 : decode kc_M_rate 85 = .ok (.goto 17, 3) := by decide +kernel
theorem kd_M_rate_88 : decode kc_M_rate 88 = .ok (.aload_n 0, 1) := by decide +kernel
theorem kd_M_rate_89 : decode kc_M_rate 89 = .ok (.getfield 228, 3) := by decide +kernel
theorem kd_M_rate_92 : decode kc_M_rate 92 = .ok (.bipush 40, 2) := by decide +kernel
theorem kd_M_rate_94 : decode kc_M_rate 94 = .ok (.if_icmp .ne 7, 3) := by decide +kernel
theorem kd_M_rate_97 : decode kc_M_rate 97 = .ok (.iconst 2, 1) := by decide +kernel
theorem kd_M_rate_98 : decode kc_M_rate 98 = .ok (.goto 4, 3) := by decide +kernel
theorem kd_M_rate_101 : decode kc_M_rate 101 = .ok (.iconst 0, 1) := by decide +kernel
theorem kd_M_rate_102 : decode kc_M_rate 102 = .ok (.putfield 190, 3) := by decide +kernel
theorem kd_M_rate_105 : decode kc_M_rate 105 = .ok (.aload_n 0, 1) := by decide +kernel
theorem kd_M_rate_106 : decode kc_M_rate 106 = .ok (.getfield 190, 3) := by decide +kernel
theorem kd_M_rate_109 : decode kc_M_rate 109 = .ok (.ifCond .le 5, 3) := by decide +kernel
theorem kd_M_rate_112 : decode kc_M_rate 112 = .ok (.iconst 0, 1) := by decide +kernel
theorem kd_M_rate_113 : decode kc_M_rate 113 = .ok (.ireturn, 1) := by decide +kernel
theorem kd_M_rate_114 : decode kc_M_rate 114 = .ok (.aload_n 0, 1) := by decide +kernel
theorem kd_M_rate_115 : decode kc_M_rate 115 = .ok (.getfield 31, 3) := by decide +kernel
theorem kd_M_rate_118 : decode kc_M_rate 118 = .ok (.aload_n 0, 1) := by decide +kernel
theorem kd_M_rate_119 : decode kc_M_rate 119 = .ok (.getfield 228, 3) := by decide +kernel
theorem kd_M_rate_122 : decode kc_M_rate 122 = .ok (.iload_n 1, 1) := by decide +kernel
theorem kd_M_rate_123 : decode kc_M_rate 123 = .ok (.iastore, 1) := by decide +kernel
theorem kd_M_rate_124 : decode kc_M_rate 124 = .ok (.aload_n 0, 1) := by decide +kernel
theorem kd_M_rate_125 : decode kc_M_rate 125 = .ok (.getfield 34, 3) := by decide +kernel
theorem kd_M_rate_128 : decode kc_M_rate 128 = .ok (.aload_n 0, 1) := by decide +kernel
theorem kd_M_rate_129 : decode kc_M_rate 129 = .ok (.getfield 228, 3) := by decide +kernel
theorem kd_M_rate_132 : decode kc_M_rate 132 = .ok (.iload_n 2, 1) := by decide +kernel
theorem kd_M_rate_133 : decode kc_M_rate 133 = .ok (.iastore, 1) := by decide +kernel
theorem kd_M_rate_134 : decode kc_M_rate 134 = .ok (.aload_n 0, 1) := by decide +kernel
theorem kd_M_rate_135 : decode kc_M_rate 135 = .ok (.getfield 37, 3) := by decide +kernel
theorem kd_M_rate_138 : decode kc_M_rate 138 = .ok (.aload_n 0, 1) := by decide +kernel
theorem kd_M_rate_139 : decode kc_M_rate 139 = .ok (.getfield 228, 3) := by decide +kernel
theorem kd_M_rate_142 : decode kc_M_rate 142 = .ok (.iload_n 3, 1) := by decide +kernel
theorem kd_M_rate_143 : decode kc_M_rate 143 = .ok (.iastore, 1) := by decide +kernel
theorem kd_M_rate_144 : decode kc_M_rate 144 = .ok (.aload_n 0, 1) := by decide +kernel
theorem kd_M_rate_145 : decode kc_M_rate 145 = .ok (.getfield 40, 3) := by decide +kernel
theorem kd_M_rate_148 : decode kc_M_rate 148 = .ok (.aload_n 0, 1) := by decide +kernel
theorem kd_M_rate_149 : decode kc_M_rate 149 = .ok (.getfield 228, 3) := by decide +kernel
theorem kd_M_rate_152 : decode kc_M_rate 152 = .ok (.iload 4, 2) := by decide +kernel
theorem kd_M_rate_154 : decode kc_M_rate 154 = .ok (.iastore, 1) := by decide +kernel
theorem kd_M_rate_155 : decode kc_M_rate 155 = .ok (.aload_n 0, 1) := by decide +kernel
theorem kd_M_rate_156 : decode kc_M_rate 156 = .ok (.getfield 43, 3) := by decide +kernel
theorem kd_M_rate_159 : decode kc_M_rate 159 = .ok (.aload_n 0, 1) := by decide +kernel
theorem kd_M_rate_160 : decode kc_M_rate 160 = .ok (.getfield 228, 3) := by decide +kernel
theorem kd_M_rate_163 : decode kc_M_rate 163 = .ok (.iload 5, 2) := by decide +kernel
theorem kd_M_rate_165 : decode kc_M_rate 165 = .ok (.iastore, 1) := by decide +kernel
theorem kd_M_rate_166 : decode kc_M_rate 166 = .ok (.aload_n 0, 1) := by decide +kernel
theorem kd_M_rate_167 : decode kc_M_rate 167 = .ok (.getfield 46, 3) := by decide +kernel
theorem kd_M_rate_170 : decode kc_M_rate 170 = .ok (.aload_n 0, 1) := by decide +kernel
theorem kd_M_rate_171 : decode kc_M_rate 171 = .ok (.getfield 228, 3) := by decide +kernel
theorem kd_M_rate_174 : decode kc_M_rate 174 = .ok (.iload 6, 2) := by decide +kernel
theorem kd_M_rate_176 : decode kc_M_rate 176 = .ok (.iastore, 1) := by decide +kernel
theorem kd_M_rate_177 : decode kc_M_rate 177 = .ok (.aload_n 0, 1) := by decide +kernel
theorem kd_M_rate_178 : decode kc_M_rate 178 = .ok (.getfield 49, 3) := by decide +kernel
theorem kd_M_rate_181 : decode kc_M_rate 181 = .ok (.aload_n 0, 1) := by decide +kernel
theorem kd_M_rate_182 : decode kc_M_rate 182 = .ok (.getfield 228, 3) := by decide +kernel
theorem kd_M_rate_185 : decode kc_M_rate 185 = .ok (.iload 7, 2) := by decide +kernel
theorem kd_M_rate_187 : decode kc_M_rate 187 = .ok (.iastore, 1) := by decide +kernel
theorem kd_M_rate_188 : decode kc_M_rate 188 = .ok (.aload_n 0, 1) := by decide +kernel
theorem kd_M_rate_189 : decode kc_M_rate 189 = .ok (.dup, 1) := by decide +kernel
theorem kd_M_rate_190 : decode kc_M_rate 190 = .ok (.getfield 228, 3) := by decide +kernel
theorem kd_M_rate_193 : decode kc_M_rate 193 = .ok (.iconst 1, 1) := by decide +kernel
theorem kd_M_rate_194 : decode kc_M_rate 194 = .ok (.iadd, 1) := by decide +kernel
theorem kd_M_rate_195 : decode kc_M_rate 195 = .ok (.putfield 228, 3) := by decide +kernel
theorem kd_M_rate_198 : decode kc_M_rate 198 = .ok (.aload_n 0, 1) := by decide +kernel
theorem kd_M_rate_199 : decode kc_M_rate 199 = .ok (.getfield 228, 3) := by decide +kernel
theorem kd_M_rate_202 : decode kc_M_rate 202 = .ok (.iconst 1, 1) := by decide +kernel
theorem kd_M_rate_203 : decode kc_M_rate 203 = .ok (.isub, 1) := by decide +kernel
theorem kd_M_rate_204 : decode kc_M_rate 204 = .ok (.ireturn, 1) := by decide +kernel
theorem kd_M_lastRate_0 : decode kc_M_lastRate 0 = .ok (.iconst (-1), 1) := by decide +kernel
theorem kd_M_lastRate_1 : decode kc_M_lastRate 1 = .ok (.istore 4, 2) := by decide +kernel
theorem kd_M_lastRate_3 : decode kc_M_lastRate 3 = .ok (.iconst 0, 1) := by decide +kernel
theorem kd_M_lastRate_4 : decode kc_M_lastRate 4 = .ok (.istore 5, 2) := by decide +kernel
theorem kd_M_lastRate_6 : decode kc_M_lastRate 6 = .ok (.iload 5, 2) := by decide +kernel
theorem kd_M_lastRate_8 : decode kc_M_lastRate 8 = .ok (.aload_n 0, 1) := by decide +kernel
theorem kd_M_lastRate_9 : decode kc_M_lastRate 9 = .ok (.getfield 228, 3) := by decide +kernel
theorem kd_M_lastRate_12 : decode kc_M_lastRate 12 = .ok (.if_icmp .ge 62, 3) := by decide +kernel
theorem kd_M_lastRate_15 : decode kc_M_lastRate 15 = .ok (.aload_n 0, 1) := by decide +kernel
theorem kd_M_lastRate_16 : decode kc_M_lastRate 16 = .ok (.getfield 31, 3) := by decide +kernel
theorem kd_M_lastRate_19 : decode kc_M_lastRate 19 = .ok (.iload 5, 2) := by decide +kernel
theorem kd_M_lastRate_21 : decode kc_M_lastRate 21 = .ok (.iaload, 1) := by decide +kernel
theorem kd_M_lastRate_22 : decode kc_M_lastRate 22 = .ok (.iload_n 1, 1) := by decide +kernel
theorem kd_M_lastRate_23 : decode kc_M_lastRate 23 = .ok (.if_icmp .ne 41, 3) := by decide +kernel
theorem kd_M_lastRate_26 : decode kc_M_lastRate 26 = .ok (.aload_n 0, 1) := by decide +kernel
theorem kd_M_lastRate_27 : decode kc_M_lastRate 27 = .ok (.getfield 34, 3) := by decide +kernel
theorem kd_M_lastRate_30 : decode kc_M_lastRate 30 = .ok (.iload 5, 2) := by decide +kernel
theorem kd_M_lastRate_32 : decode kc_M_lastRate 32 = .ok (.iaload, 1) := by decide +kernel
theorem kd_M_lastRate_33 : decode kc_M_lastRate 33 = .ok (.iload_n 2, 1) := by decide +kernel
theorem kd_M_lastRate_34 : decode kc_M_lastRate 34 = .ok (.if_icmp .ne 30, 3) := by decide +kernel
theorem kd_M_lastRate_37 : decode kc_M_lastRate 37 = .ok (.iload_n 3, 1) := by decide +kernel
theorem kd_M_lastRate_38 : decode kc_M_lastRate 38 = .ok (.aload_n 0, 1) := by decide +kernel
theorem kd_M_lastRate_39 : decode kc_M_lastRate 39 = .ok (.getfield 46, 3) := by decide +kernel
theorem kd_M_lastRate_42 : decode kc_M_lastRate 42 = .ok (.iload 5, 2) := by decide +kernel
theorem kd_M_lastRate_44 : decode kc_M_lastRate 44 = .ok (.iaload, 1) := by decide +kernel
theorem kd_M_lastRate_45 : decode kc_M_lastRate 45 = .ok (.if_icmp .lt 19, 3) := by decide +kernel
theorem kd_M_lastRate_48 : decode kc_M_lastRate 48 = .ok (.iload_n 3, 1) := by decide +kernel
theorem kd_M_lastRate_49 : decode kc_M_lastRate 49 = .ok (.aload_n 0, 1) := by decide +kernel
theorem kd_M_lastRate_50 : decode kc_M_lastRate 50 = .ok (.getfield 49, 3) := by decide +kernel
theorem kd_M_lastRate_53 : decode kc_M_lastRate 53 = .ok (.iload 5, 2) := by decide +kernel
theorem kd_M_lastRate_55 : decode kc_M_lastRate 55 = .ok (.iaload, 1) := by decide +kernel
theorem kd_M_lastRate_56 : decode kc_M_lastRate 56 = .ok (.if_icmp .gt 8, 3) := by decide +kernel
theorem kd_M_lastRate_59 : decode kc_M_lastRate 59 = .ok (.iload 5, 2) := by decide +kernel
theorem kd_M_lastRate_61 : decode kc_M_lastRate 61 = .ok (.goto 5, 3) := by decide +kernel
theorem kd_M_lastRate_64 : decode kc_M_lastRate 64 = .ok (.iload 4, 2) := by decide +kernel
theorem kd_M_lastRate_66 : decode kc_M_lastRate 66 = .ok (.istore 4, 2) := by decide +kernel
theorem kd_M_lastRate_68 : decode kc_M_lastRate 68 = .ok (.iinc 5 1, 3) := by decide +kernel
theorem kd_M_lastRate_71 : decode kc_M_lastRate 71 = .ok (.goto (-65), 3) := by decide +kernel
theorem kd_M_lastRate_74 : decode kc_M_lastRate 74 = .ok (.iload 4, 2) := by decide +kernel
theorem kd_M_lastRate_76 : decode kc_M_lastRate 76 = .ok (.ireturn, 1) := by decide +kernel
theorem kd_M_rateOf_0 : decode kc_M_rateOf 0 = .ok (.iconst (-1), 1) := by decide +kernel
theorem kd_M_rateOf_1 : decode kc_M_rateOf 1 = .ok (.istore 4, 2) := by decide +kernel
theorem kd_M_rateOf_3 : decode kc_M_rateOf 3 = .ok (.iload_n 1, 1) := by decide +kernel
theorem kd_M_rateOf_4 : decode kc_M_rateOf 4 = .ok (.istore 5, 2) := by decide +kernel
theorem kd_M_rateOf_6 : decode kc_M_rateOf 6 = .ok (.iload 5, 2) := by decide +kernel
theorem kd_M_rateOf_8 : decode kc_M_rateOf 8 = .ok (.ifCond .lt 50, 3) := by decide +kernel
theorem kd_M_rateOf_11 : decode kc_M_rateOf 11 = .ok (.iload 4, 2) := by decide +kernel
theorem kd_M_rateOf_13 : decode kc_M_rateOf 13 = .ok (.ifCond .ge 45, 3) := by decide +kernel
theorem kd_M_rateOf_16 : decode kc_M_rateOf 16 = .ok (.aload_n 0, 1) := by decide +kernel
theorem kd_M_rateOf_17 : decode kc_M_rateOf 17 = .ok (.iload 5, 2) := by decide +kernel
theorem kd_M_rateOf_19 : decode kc_M_rateOf 19 = .ok (.iload_n 2, 1) := by decide +kernel
theorem kd_M_rateOf_20 : decode kc_M_rateOf 20 = .ok (.iload_n 3, 1) := by decide +kernel
theorem kd_M_rateOf_21 : decode kc_M_rateOf 21 = .ok (.invokevirtual 231, 3) := by decide +kernel
theorem kd_M_rateOf_24 : decode kc_M_rateOf 24 = .ok (.istore 4, 2) := by decide +kernel
theorem kd_M_rateOf_26 : decode kc_M_rateOf 26 = .ok (.iload 4, 2) := by decide +kernel
theorem kd_M_rateOf_28 : decode kc_M_rateOf 28 = .ok (.ifCond .ge 14, 3) := by decide +kernel
theorem kd_M_rateOf_31 : decode kc_M_rateOf 31 = .ok (.aload_n 0, 1) := by decide +kernel
theorem kd_M_rateOf_32 : decode kc_M_rateOf 32 = .ok (.iload 5, 2) := by decide +kernel
theorem kd_M_rateOf_34 : decode kc_M_rateOf 34 = .ok (.iconst (-1), 1) := by decide +kernel
theorem kd_M_rateOf_35 : decode kc_M_rateOf 35 = .ok (.iload_n 3, 1) := by decide +kernel
theorem kd_M_rateOf_36 : decode kc_M_rateOf 36 = .ok (.invokevirtual 231, 3) := by decide +kernel
theorem kd_M_rateOf_39 : decode kc_M_rateOf 39 = .ok (.goto 5, 3) := by decide +kernel
theorem kd_M_rateOf_42 : decode kc_M_rateOf 42 = .ok (.iload 4, 2) := by decide +kernel
theorem kd_M_rateOf_44 : decode kc_M_rateOf 44 = .ok (.istore 4, 2) := by decide +kernel
theorem kd_M_rateOf_46 : decode kc_M_rateOf 46 = .ok (.aload_n 0, 1) := by decide +kernel
theorem kd_M_rateOf_47 : decode kc_M_rateOf 47 = .ok (.getfield 7, 3) := by decide +kernel
theorem kd_M_rateOf_50 : decode kc_M_rateOf 50 = .ok (.iload 5, 2) := by decide +kernel
theorem kd_M_rateOf_52 : decode kc_M_rateOf 52 = .ok (.iaload, 1) := by decide +kernel
theorem kd_M_rateOf_53 : decode kc_M_rateOf 53 = .ok (.istore 5, 2) := by decide +kernel
theorem kd_M_rateOf_55 : decode kc_M_rateOf 55 = .ok (.goto (-49), 3) := by decide +kernel
theorem kd_M_rateOf_58 : decode kc_M_rateOf 58 = .ok (.iload 4, 2) := by decide +kernel
theorem kd_M_rateOf_60 : decode kc_M_rateOf 60 = .ok (.ireturn, 1) := by decide +kernel
theorem kd_M_rateFor_0 : decode kc_M_rateFor 0 = .ok (.aload_n 0, 1) := by decide +kernel
theorem kd_M_rateFor_1 : decode kc_M_rateFor 1 = .ok (.aload_n 0, 1) := by decide +kernel
theorem kd_M_rateFor_2 : decode kc_M_rateFor 2 = .ok (.iload_n 1, 1) := by decide +kernel
theorem kd_M_rateFor_3 : decode kc_M_rateFor 3 = .ok (.invokevirtual 196, 3) := by decide +kernel
theorem kd_M_rateFor_6 : decode kc_M_rateFor 6 = .ok (.ifCond .eq 28, 3) := by decide +kernel
theorem kd_M_rateFor_9 : decode kc_M_rateFor 9 = .ok (.iload_n 2, 1) := by decide +kernel
theorem kd_M_rateFor_10 : decode kc_M_rateFor 10 = .ok (.iconst 0, 1) := by decide +kernel
theorem kd_M_rateFor_11 : decode kc_M_rateFor 11 = .ok (.bipush 7, 2) := by decide +kernel
theorem kd_M_rateFor_13 : decode kc_M_rateFor 13 = .ok (.invokestatic 204, 3) := by decide +kernel
theorem kd_M_rateFor_16 : decode kc_M_rateFor 16 = .ok (.ifCond .eq 18, 3) := by decide +kernel
theorem kd_M_rateFor_19 : decode kc_M_rateFor 19 = .ok (.iload_n 3, 1) := by decide +kernel
theorem kd_M_rateFor_20 : decode kc_M_rateFor 20 = .ok (.iconst 0, 1) := by decide +kernel
theorem kd_M_rateFor_21 : decode kc_M_rateFor 21 = .ok (.sipush 9999, 3) := by decide +kernel
theorem kd_M_rateFor_24 : decode kc_M_rateFor 24 = .ok (.invokestatic 204, 3) := by decide +kernel
theorem kd_M_rateFor_27 : decode kc_M_rateFor 27 = .ok (.ifCond .eq 7, 3) := by decide +kernel
theorem kd_M_rateFor_30 : decode kc_M_rateFor 30 = .ok (.iconst 0, 1) := by decide +kernel
theorem kd_M_rateFor_31 : decode kc_M_rateFor 31 = .ok (.goto 4, 3) := by decide +kernel
theorem kd_M_rateFor_34 : decode kc_M_rateFor 34 = .ok (.iconst 1, 1) := by decide +kernel
theorem kd_M_rateFor_35 : decode kc_M_rateFor 35 = .ok (.putfield 190, 3) := by decide +kernel
theorem kd_M_rateFor_38 : decode kc_M_rateFor 38 = .ok (.aload_n 0, 1) := by decide +kernel
theorem kd_M_rateFor_39 : decode kc_M_rateFor 39 = .ok (.getfield 190, 3) := by decide +kernel
theorem kd_M_rateFor_42 : decode kc_M_rateFor 42 = .ok (.ifCond .le 7, 3) := by decide +kernel
theorem kd_M_rateFor_45 : decode kc_M_rateFor 45 = .ok (.iconst 0, 1) := by decide +kernel
theorem kd_M_rateFor_46 : decode kc_M_rateFor 46 = .ok (.goto 10, 3) := by decide +kernel
theorem kd_M_rateFor_49 : decode kc_M_rateFor 49 = .ok (.aload_n 0, 1) := by decide +kernel
theorem kd_M_rateFor_50 : decode kc_M_rateFor 50 = .ok (.iload_n 1, 1) := by decide +kernel
theorem kd_M_rateFor_51 : decode kc_M_rateFor 51 = .ok (.iload_n 2, 1) := by decide +kernel
theorem kd_M_rateFor_52 : decode kc_M_rateFor 52 = .ok (.iload_n 3, 1) := by decide +kernel
theorem kd_M_rateFor_53 : decode kc_M_rateFor 53 = .ok (.invokevirtual 235, 3) := by decide +kernel
theorem kd_M_rateFor_56 : decode kc_M_rateFor 56 = .ok (.ireturn, 1) := by decide +kernel
