theorem kd_M_note_111 : decode kc_M_note 111 = .ok (.aload_n 0, 1) := by decide +kernel
theorem kd_M_note_112 : decode kc_M_note 112 = .ok (.getfield 25, 3) := by decide +kernel
theorem kd_M_note_115 : decode kc_M_note 115 = .ok (.aload_n 0, 1) := by decide +kernel
theorem kd_M_note_116 : decode kc_M_note 116 = .ok (.getfield 208, 3) := by decide +kernel
theorem kd_M_note_119 : decode kc_M_note 119 = .ok (.iload_n 3, 1) := by decide +kernel
theorem kd_M_note_120 : decode kc_M_note 120 = .ok (.iastore, 1) := by decide +kernel
theorem kd_M_note_121 : decode kc_M_note 121 = .ok (.aload_n 0, 1) := by decide +kernel
theorem kd_M_note_122 : decode kc_M_note 122 = .ok (.getfield 28, 3) := by decide +kernel
theorem kd_M_note_125 : decode kc_M_note 125 = .ok (.aload_n 0, 1) := by decide +kernel
theorem kd_M_note_126 : decode kc_M_note 126 = .ok (.getfield 208, 3) := by decide +kernel
theorem kd_M_note_129 : decode kc_M_note 129 = .ok (.iload 4, 2) := by decide +kernel
theorem kd_M_note_131 : decode kc_M_note 131 = .ok (.iastore, 1) := by decide +kernel
theorem kd_M_note_132 : decode kc_M_note 132 = .ok (.aload_n 0, 1) := by decide +kernel
theorem kd_M_note_133 : decode kc_M_note 133 = .ok (.dup, 1) := by decide +kernel
theorem kd_M_note_134 : decode kc_M_note 134 = .ok (.getfield 208, 3) := by decide +kernel
theorem kd_M_note_137 : decode kc_M_note 137 = .ok (.iconst 1, 1) := by decide +kernel
theorem kd_M_note_138 : decode kc_M_note 138 = .ok (.iadd, 1) := by decide +kernel
theorem kd_M_note_139 : decode kc_M_note 139 = .ok (.putfield 208, 3) := by decide +kernel
theorem kd_M_note_142 : decode kc_M_note 142 = .ok (.aload_n 0, 1) := by decide +kernel
theorem kd_M_note_143 : decode kc_M_note 143 = .ok (.getfield 208, 3) := by decide +kernel
theorem kd_M_note_146 : decode kc_M_note 146 = .ok (.iconst 1, 1) := by decide +kernel
theorem kd_M_note_147 : decode kc_M_note 147 = .ok (.isub, 1) := by decide +kernel
theorem kd_M_note_148 : decode kc_M_note 148 = .ok (.ireturn, 1) := by decide +kernel
theorem kd_M_fact_0 : decode kc_M_fact 0 = .ok (.aload_n 0, 1) := by decide +kernel
theorem kd_M_fact_1 : decode kc_M_fact 1 = .ok (.iload_n 1, 1) := by decide +kernel
theorem kd_M_fact_2 : decode kc_M_fact 2 = .ok (.iconst 0, 1) := by decide +kernel
theorem kd_M_fact_3 : decode kc_M_fact 3 = .ok (.bipush 15, 2) := by decide +kernel
theorem kd_M_fact_5 : decode kc_M_fact 5 = .ok (.invokestatic 204, 3) := by decide +kernel
theorem kd_M_fact_8 : decode kc_M_fact 8 = .ok (.ifCond .eq 28, 3) := by decide +kernel
theorem kd_M_fact_11 : decode kc_M_fact 11 = .ok (.iload_n 2, 1) := by decide +kernel
theorem kd_M_fact_12 : decode kc_M_fact 12 = .ok (.iconst 0, 1) := by decide +kernel
theorem kd_M_fact_13 : decode kc_M_fact 13 = .ok (.bipush 7, 2) := by decide +kernel
theorem kd_M_fact_15 : decode kc_M_fact 15 = .ok (.invokestatic 204, 3) := by decide +kernel
theorem kd_M_fact_18 : decode kc_M_fact 18 = .ok (.ifCond .eq 18, 3) := by decide +kernel
theorem kd_M_fact_21 : decode kc_M_fact 21 = .ok (.iload_n 3, 1) := by decide +kernel
theorem kd_M_fact_22 : decode kc_M_fact 22 = .ok (.iconst 0, 1) := by decide +kernel
theorem kd_M_fact_23 : decode kc_M_fact 23 = .ok (.sipush 1000, 3) := by decide +kernel
theorem kd_M_fact_26 : decode kc_M_fact 26 = .ok (.invokestatic 204, 3) := by decide +kernel
theorem kd_M_fact_29 : decode kc_M_fact 29 = .ok (.ifCond .eq 7, 3) := by decide +kernel
theorem kd_M_fact_32 : decode kc_M_fact 32 = .ok (.iconst 0, 1) := by decide +kernel
theorem kd_M_fact_33 : decode kc_M_fact 33 = .ok (.goto 4, 3) := by decide +kernel
theorem kd_M_fact_36 : decode kc_M_fact 36 = .ok (.iconst 1, 1) := by decide +kernel
theorem kd_M_fact_37 : decode kc_M_fact 37 = .ok (.putfield 190, 3) := by decide +kernel
theorem kd_M_fact_40 : decode kc_M_fact 40 = .ok (.aload_n 0, 1) := by decide +kernel
theorem kd_M_fact_41 : decode kc_M_fact 41 = .ok (.getfield 190, 3) := by decide +kernel
theorem kd_M_fact_44 : decode kc_M_fact 44 = .ok (.ifCond .le 5, 3) := by decide +kernel
theorem kd_M_fact_47 : decode kc_M_fact 47 = .ok (.iconst 0, 1) := by decide +kernel
theorem kd_M_fact_48 : decode kc_M_fact 48 = .ok (.ireturn, 1) := by decide +kernel
theorem kd_M_fact_49 : decode kc_M_fact 49 = .ok (.aload_n 0, 1) := by decide +kernel
theorem kd_M_fact_50 : decode kc_M_fact 50 = .ok (.getfield 73, 3) := by decide +kernel
theorem kd_M_fact_53 : decode kc_M_fact 53 = .ok (.bipush 8, 2) := by decide +kernel
theorem kd_M_fact_55 : decode kc_M_fact 55 = .ok (.iload_n 1, 1) := by decide +kernel
theorem kd_M_fact_56 : decode kc_M_fact 56 = .ok (.imul, 1) := by decide +kernel
theorem kd_M_fact_57 : decode kc_M_fact 57 = .ok (.iload_n 2, 1) := by decide +kernel
theorem kd_M_fact_58 : decode kc_M_fact 58 = .ok (.iadd, 1) := by decide +kernel
theorem kd_M_fact_59 : decode kc_M_fact 59 = .ok (.iaload, 1) := by decide +kernel
theorem kd_M_fact_60 : decode kc_M_fact 60 = .ok (.istore 4, 2) := by decide +kernel
theorem kd_M_fact_62 : decode kc_M_fact 62 = .ok (.aload_n 0, 1) := by decide +kernel
theorem kd_M_fact_63 : decode kc_M_fact 63 = .ok (.getfield 73, 3) := by decide +kernel
theorem kd_M_fact_66 : decode kc_M_fact 66 = .ok (.bipush 8, 2) := by decide +kernel
theorem kd_M_fact_68 : decode kc_M_fact 68 = .ok (.iload_n 1, 1) := by decide +kernel
theorem kd_M_fact_69 : decode kc_M_fact 69 = .ok (.imul, 1) := by decide +kernel
theorem kd_M_fact_70 : decode kc_M_fact 70 = .ok (.iload_n 2, 1) := by decide +kernel
theorem kd_M_fact_71 : decode kc_M_fact 71 = .ok (.iadd, 1) := by decide +kernel
theorem kd_M_fact_72 : decode kc_M_fact 72 = .ok (.iload_n 3, 1) := by decide +kernel
theorem kd_M_fact_73 : decode kc_M_fact 73 = .ok (.iastore, 1) := by decide +kernel
theorem kd_M_fact_74 : decode kc_M_fact 74 = .ok (.iload 4, 2) := by decide +kernel
theorem kd_M_fact_76 : decode kc_M_fact 76 = .ok (.ireturn, 1) := by decide +kernel
theorem kd_M_classify_0 : decode kc_M_classify 0 = .ok (.aload_n 0, 1) := by decide +kernel
theorem kd_M_classify_1 : decode kc_M_classify 1 = .ok (.iload_n 1, 1) := by decide +kernel
theorem kd_M_classify_2 : decode kc_M_classify 2 = .ok (.iconst 0, 1) := by decide +kernel
theorem kd_M_classify_3 : decode kc_M_classify 3 = .ok (.bipush 15, 2) := by decide +kernel
theorem kd_M_classify_5 : decode kc_M_classify 5 = .ok (.invokestatic 204, 3) := by decide +kernel
theorem kd_M_classify_8 : decode kc_M_classify 8 = .ok (.ifCond .eq 7, 3) := by decide +kernel
theorem kd_M_classify_11 : decode kc_M_classify 11 = .ok (.iconst 0, 1) := by decide +kernel
theorem kd_M_classify_12 : decode kc_M_classify 12 = .ok (.goto 4, 3) := by decide +kernel
theorem kd_M_classify_15 : decode kc_M_classify 15 = .ok (.iconst 1, 1) := by decide +kernel
theorem kd_M_classify_16 : decode kc_M_classify 16 = .ok (.putfield 190, 3) := by decide +kernel
theorem kd_M_classify_19 : decode kc_M_classify 19 = .ok (.aload_n 0, 1) := by decide +kernel
theorem kd_M_classify_20 : decode kc_M_classify 20 = .ok (.getfield 190, 3) := by decide +kernel
theorem kd_M_classify_23 : decode kc_M_classify 23 = .ok (.ifCond .le 7, 3) := by decide +kernel
theorem kd_M_classify_26 : decode kc_M_classify 26 = .ok (.iconst 0, 1) := by decide +kernel
theorem kd_M_classify_27 : decode kc_M_classify 27 = .ok (.goto 8, 3) := by decide +kernel
theorem kd_M_classify_30 : decode kc_M_classify 30 = .ok (.aload_n 0, 1) := by decide +kernel
theorem kd_M_classify_31 : decode kc_M_classify 31 = .ok (.iload_n 1, 1) := by decide +kernel
theorem kd_M_classify_32 : decode kc_M_classify 32 = .ok (.invokevirtual 225, 3) := by decide +kernel
theorem kd_M_classify_35 : decode kc_M_classify 35 = .ok (.ireturn, 1) := by decide +kernel
theorem kd_M_rate_0 : decode kc_M_rate 0 = .ok (.aload_n 0, 1) := by decide +kernel
theorem kd_M_rate_1 : decode kc_M_rate 1 = .ok (.iload_n 1, 1) := by decide +kernel
theorem kd_M_rate_2 : decode kc_M_rate 2 = .ok (.invokevirtual 196, 3) := by decide +kernel
theorem kd_M_rate_5 : decode kc_M_rate 5 = .ok (.ifCond .eq 50, 3) := by decide +kernel
theorem kd_M_rate_8 : decode kc_M_rate 8 = .ok (.iload_n 2, 1) := by decide +kernel
theorem kd_M_rate_9 : decode kc_M_rate 9 = .ok (.iconst (-1), 1) := by decide +kernel
theorem kd_M_rate_10 : decode kc_M_rate 10 = .ok (.bipush 7, 2) := by decide +kernel
theorem kd_M_rate_12 : decode kc_M_rate 12 = .ok (.invokestatic 204, 3) := by decide +kernel
theorem kd_M_rate_15 : decode kc_M_rate 15 = .ok (.ifCond .eq 40, 3) := by decide +kernel
theorem kd_M_rate_18 : decode kc_M_rate 18 = .ok (.iload_n 3, 1) := by decide +kernel
theorem kd_M_rate_19 : decode kc_M_rate 19 = .ok (.iconst 0, 1) := by decide +kernel
theorem kd_M_rate_20 : decode kc_M_rate 20 = .ok (.iconst 3, 1) := by decide +kernel
theorem kd_M_rate_21 : decode kc_M_rate 21 = .ok (.invokestatic 204, 3) := by decide +kernel
theorem kd_M_rate_24 : decode kc_M_rate 24 = .ok (.ifCond .eq 31, 3) := by decide +kernel
theorem kd_M_rate_27 : decode kc_M_rate 27 = .ok (.iload 4, 2) := by decide +kernel
theorem kd_M_rate_29 : decode kc_M_rate 29 = .ok (.iconst 0, 1) := by decide +kernel
theorem kd_M_rate_30 : decode kc_M_rate 30 = .ok (.sipush 10000, 3) := by decide +kernel
theorem kd_M_rate_33 : decode kc_M_rate 33 = .ok (.invokestatic 204, 3) := by decide +kernel
theorem kd_M_rate_36 : decode kc_M_rate 36 = .ok (.ifCond .eq 19, 3) := by decide +kernel
theorem kd_M_rate_39 : decode kc_M_rate 39 = .ok (.iload 5, 2) := by decide +kernel
theorem kd_M_rate_41 : decode kc_M_rate 41 = .ok (.iconst 0, 1) := by decide +kernel
theorem kd_M_rate_42 : decode kc_M_rate 42 = .ok (.sipush 10000, 3) := by decide +kernel
theorem kd_M_rate_45 : decode kc_M_rate 45 = .ok (.invokestatic 204, 3) := by decide +kernel
theorem kd_M_rate_48 : decode kc_M_rate 48 = .ok (.ifCond .eq 7, 3) := by decide +kernel
theorem kd_M_rate_51 : decode kc_M_rate 51 = .ok (.iconst 1, 1) := by decide +kernel
theorem kd_M_rate_52 : decode kc_M_rate 52 = .ok (.goto 4, 3) := by decide +kernel
theorem kd_M_rate_55 : decode kc_M_rate 55 = .ok (.iconst 0, 1) := by decide +kernel
theorem kd_M_rate_56 : decode kc_M_rate 56 = .ok (.istore 8, 2) := by decide +kernel
theorem kd_M_rate_58 : decode kc_M_rate 58 = .ok (.aload_n 0, 1) := by decide +kernel
theorem kd_M_rate_59 : decode kc_M_rate 59 = .ok (.iload 8, 2) := by decide +kernel
theorem kd_M_rate_61 : decode kc_M_rate 61 = .ok (.ifCond .eq 23, 3) := by decide +kernel
theorem kd_M_rate_64 : decode kc_M_rate 64 = .ok (.iload 6, 2) := by decide +kernel
theorem kd_M_rate_66 : decode kc_M_rate 66 = .ok (.ifCond .lt 18, 3) := by decide +kernel
theorem kd_M_rate_69 : decode kc_M_rate 69 = .ok (.iload 6, 2) := by decide +kernel
theorem kd_M_rate_71 : decode kc_M_rate 71 = .ok (.iload 7, 2) := by decide +kernel
theorem kd_M_rate_73 : decode kc_M_rate 73 = .ok (.if_icmp .gt 11, 3) := by decide +kernel
theorem kd_M_rate_76 : decode kc_M_rate 76 = .ok (.iload 7, 2) := by decide +kernel
theorem kd_M_rate_78 : decode kc_M_rate 78 = .ok (.sipush 9999, 3) := by decide +kernel
theorem kd_M_rate_81 : decode kc_M_rate 81 = .ok (.if_icmp .le 7, 3) := by decide +kernel
theorem kd_M_rate_84 : decode kc_M_rate 84 = .ok (.iconst 1, 1) := by decide +kernel
theorem kd_M_rate_85 : decode kc_M_rate 85 = .ok (.goto 17, 3) := by decide +kernel
theorem kd_M_rate_88 : decode kc_M_rate 88 = .ok (.aload_n 0, 1) := by decide +kernel
theorem kd_M_rate_89 : decode kc_M_rate 89 = .ok (.getfield 228, 3) := by decide +kernel
theorem kd_M_rate_92 : decode kc_M_rate 92 = .ok (.bipush 40, 2) := by decide +kernel
theorem kd_M_rate_94 : decode kc_M_rate 94 = .ok (.if_icmp .ne 7, 3) := by decide +kernel
theorem kd_M_rate_97 : decode kc_M_rate 97 = .ok (.iconst 2, 1) := by decide +kernel
theorem kd_M_rate_98 : decode kc_M_rate 98 = .ok (.goto 4, 3) := by decide +kernel
theorem kd_M_rate_101 : decode kc_M_rate 101 = .ok (.iconst 0, 1) := by decide +kernel
theorem kd_M_rate_102 : decode kc_M_rate 102 = .ok (.putfield 190, 3) := by decide +kernel
theorem kd_M_rate_105 : decode kc_M_rate 105 = .ok (.aload_n 0, 1) := by decide +kernel
theorem kd_M_rate_106 : decode kc_M_rate 106 = .ok (.getfield 190, 3) := by decide +kernel
theorem kd_M_rate_109 : decode kc_M_rate 109 = .ok (.ifCond .le 5, 3) := by decide +kernel
theorem kd_M_rate_112 : decode kc_M_rate 112 = .ok (.iconst 0, 1) := by decide +kernel
theorem kd_M_rate_113 : decode kc_M_rate 113 = .ok (.ireturn, 1) := by decide +kernel
theorem kd_M_rate_114 : decode kc_M_rate 114 = .ok (.aload_n 0, 1) := by decide +kernel
theorem kd_M_rate_115 : decode kc_M_rate 115 = .ok (.getfield 31, 3) := by decide +kernel
theorem kd_M_rate_118 : decode kc_M_rate 118 = .ok (.aload_n 0, 1) := by decide +kernel
theorem kd_M_rate_119 : decode kc_M_rate 119 = .ok (.getfield 228, 3) := by decide +kernel
theorem kd_M_rate_122 : decode kc_M_rate 122 = .ok (.iload_n 1, 1) := by decide +kernel
theorem kd_M_rate_123 : decode kc_M_rate 123 = .ok (.iastore, 1) := by decide +kernel
theorem kd_M_rate_124 : decode kc_M_rate 124 = .ok (.aload_n 0, 1) := by decide +kernel
theorem kd_M_rate_125 : decode kc_M_rate 125 = .ok (.getfield 34, 3) := by decide +kernel
theorem kd_M_rate_128 : decode kc_M_rate 128 = .ok (.aload_n 0, 1) := by decide +kernel
theorem kd_M_rate_129 : decode kc_M_rate 129 = .ok (.getfield 228, 3) := by decide +kernel
theorem kd_M_rate_132 : decode kc_M_rate 132 = .ok (.iload_n 2, 1) := by decide +kernel
theorem kd_M_rate_133 : decode kc_M_rate 133 = .ok (.iastore, 1) := by decide +kernel
theorem kd_M_rate_134 : decode kc_M_rate 134 = .ok (.aload_n 0, 1) := by decide +kernel
theorem kd_M_rate_135 : decode kc_M_rate 135 = .ok (.getfield 37, 3) := by decide +kernel
theorem kd_M_rate_138 : decode kc_M_rate 138 = .ok (.aload_n 0, 1) := by decide +kernel
theorem kd_M_rate_139 : decode kc_M_rate 139 = .ok (.getfield 228, 3) := by decide +kernel
theorem kd_M_rate_142 : decode kc_M_rate 142 = .ok (.iload_n 3, 1) := by decide +kernel
theorem kd_M_rate_143 : decode kc_M_rate 143 = .ok (.iastore, 1) := by decide +kernel
theorem kd_M_rate_144 : decode kc_M_rate 144 = .ok (.aload_n 0, 1) := by decide +kernel
theorem kd_M_rate_145 : decode kc_M_rate 145 = .ok (.getfield 40, 3) := by decide +kernel
theorem kd_M_rate_148 : decode kc_M_rate 148 = .ok (.aload_n 0, 1) := by decide +kernel
theorem kd_M_rate_149 : decode kc_M_rate 149 = .ok (.getfield 228, 3) := by decide +kernel
theorem kd_M_rate_152 : decode kc_M_rate 152 = .ok (.iload 4, 2) := by decide +kernel
theorem kd_M_rate_154 : decode kc_M_rate 154 = .ok (.iastore, 1) := by decide +kernel
theorem kd_M_rate_155 : decode kc_M_rate 155 = .ok (.aload_n 0, 1) := by decide +kernel
theorem kd_M_rate_156 : decode kc_M_rate 156 = .ok (.getfield 43, 3) := by decide +kernel
theorem kd_M_rate_159 : decode kc_M_rate 159 = .ok (.aload_n 0, 1) := by decide +kernel
theorem kd_M_rate_160 : decode kc_M_rate 160 = .ok (.getfield 228, 3) := by decide +kernel
theorem kd_M_rate_163 : decode kc_M_rate 163 = .ok (.iload 5, 2) := by decide +kernel
theorem kd_M_rate_165 : decode kc_M_rate 165 = .ok (.iastore, 1) := by decide +kernel
theorem kd_M_rate_166 : decode kc_M_rate 166 = .ok (.aload_n 0, 1) := by decide +kernel
theorem kd_M_rate_167 : decode kc_M_rate 167 = .ok (.getfield 46, 3) := by decide +kernel
theorem kd_M_rate_170 : decode kc_M_rate 170 = .ok (.aload_n 0, 1) := by decide +kernel
theorem kd_M_rate_171 : decode kc_M_rate 171 = .ok (.getfield 228, 3) := by decide +kernel
theorem kd_M_rate_174 : decode kc_M_rate 174 = .ok (.iload 6, 2) := by decide +kernel
theorem kd_M_rate_176 : decode kc_M_rate 176 = .ok (.iastore, 1) := by decide +kernel
theorem kd_M_rate_177 : decode kc_M_rate 177 = .ok (.aload_n 0, 1) := by decide +kernel
theorem kd_M_rate_178 : decode kc_M_rate 178 = .ok (.getfield 49, 3) := by decide +kernel
theorem kd_M_rate_181 : decode kc_M_rate 181 = .ok (.aload_n 0, 1) := by decide +kernel
theorem kd_M_rate_182 : decode kc_M_rate 182 = .ok (.getfield 228, 3) := by decide +kernel
theorem kd_M_rate_185 : decode kc_M_rate 185 = .ok (.iload 7, 2) := by decide +kernel
theorem kd_M_rate_187 : decode kc_M_rate 187 = .ok (.iastore, 1) := by decide +kernel
theorem kd_M_rate_188 : decode kc_M_rate 188 = .ok (.aload_n 0, 1) := by decide +kernel
theorem kd_M_rate_189 : decode kc_M_rate 189 = .ok (.dup, 1) := by decide +kernel
theorem kd_M_rate_190 : decode kc_M_rate 190 = .ok (.getfield 228, 3) := by decide +kernel
theorem kd_M_rate_193 : decode kc_M_rate 193 = .ok (.iconst 1, 1) := by decide +kernel
theorem kd_M_rate_194 : decode kc_M_rate 194 = .ok (.iadd, 1) := by decide +kernel
theorem kd_M_rate_195 : decode kc_M_rate 195 = .ok (.putfield 228, 3) := by decide +kernel
theorem kd_M_rate_198 : decode kc_M_rate 198 = .ok (.aload_n 0, 1) := by decide +kernel
theorem kd_M_rate_199 : decode kc_M_rate 199 = .ok (.getfield 228, 3) := by decide +kernel
theorem kd_M_rate_202 : decode kc_M_rate 202 = .ok (.iconst 1, 1) := by decide +kernel
theorem kd_M_rate_203 : decode kc_M_rate 203 = .ok (.isub, 1) := by decide +kernel
theorem kd_M_rate_204 : decode kc_M_rate 204 = .ok (.ireturn, 1) := by decide +kernel
theorem kd_M_rateFor_0 : decode kc_M_rateFor 0 = .ok (.aload_n 0, 1) := by decide +kernel
theorem kd_M_rateFor_1 : decode kc_M_rateFor 1 = .ok (.aload_n 0, 1) := by decide +kernel
theorem kd_M_rateFor_2 : decode kc_M_rateFor 2 = .ok (.iload_n 1, 1) := by decide +kernel
theorem kd_M_rateFor_3 : decode kc_M_rateFor 3 = .ok (.invokevirtual 196, 3) := by decide +kernel
theorem kd_M_rateFor_6 : decode kc_M_rateFor 6 = .ok (.ifCond .eq 28, 3) := by decide +kernel
theorem kd_M_rateFor_9 : decode kc_M_rateFor 9 = .ok (.iload_n 2, 1) := by decide +kernel
theorem kd_M_rateFor_10 : decode kc_M_rateFor 10 = .ok (.iconst 0, 1) := by decide +kernel
theorem kd_M_rateFor_11 : decode kc_M_rateFor 11 = .ok (.bipush 7, 2) := by decide +kernel
theorem kd_M_rateFor_13 : decode kc_M_rateFor 13 = .ok (.invokestatic 204, 3) := by decide +kernel
theorem kd_M_rateFor_16 : decode kc_M_rateFor 16 = .ok (.ifCond .eq 18, 3) := by decide +kernel
theorem kd_M_rateFor_19 : decode kc_M_rateFor 19 = .ok (.iload_n 3, 1) := by decide +kernel
theorem kd_M_rateFor_20 : decode kc_M_rateFor 20 = .ok (.iconst 0, 1) := by decide +kernel
theorem kd_M_rateFor_21 : decode kc_M_rateFor 21 = .ok (.sipush 9999, 3) := by decide +kernel
theorem kd_M_rateFor_24 : decode kc_M_rateFor 24 = .ok (.invokestatic 204, 3) := by decide +kernel
theorem kd_M_rateFor_27 : decode kc_M_rateFor 27 = .ok (.ifCond .eq 7, 3) := by decide +kernel
theorem kd_M_rateFor_30 : decode kc_M_rateFor 30 = .ok (.iconst 0, 1) := by decide +kernel
theorem kd_M_rateFor_31 : decode kc_M_rateFor 31 = .ok (.goto 4, 3) := by decide +kernel
theorem kd_M_rateFor_34 : decode kc_M_rateFor 34 = .ok (.iconst 1, 1) := by decide +kernel
theorem kd_M_rateFor_35 : decode kc_M_rateFor 35 = .ok (.putfield 190, 3) := by decide +kernel
theorem kd_M_rateFor_38 : decode kc_M_rateFor 38 = .ok (.aload_n 0, 1) := by decide +kernel
theorem kd_M_rateFor_39 : decode kc_M_rateFor 39 = .ok (.getfield 190, 3) := by decide +kernel
theorem kd_M_rateFor_42 : decode kc_M_rateFor 42 = .ok (.ifCond .le 7, 3) := by decide +kernel
theorem kd_M_rateFor_45 : decode kc_M_rateFor 45 = .ok (.iconst 0, 1) := by decide +kernel
theorem kd_M_rateFor_46 : decode kc_M_rateFor 46 = .ok (.goto 10, 3) := by decide +kernel
theorem kd_M_rateFor_49 : decode kc_M_rateFor 49 = .ok (.aload_n 0, 1) := by decide +kernel
theorem kd_M_rateFor_50 : decode kc_M_rateFor 50 = .ok (.iload_n 1, 1) := by decide +kernel
theorem kd_M_rateFor_51 : decode kc_M_rateFor 51 = .ok (.iload_n 2, 1) := by decide +kernel
theorem kd_M_rateFor_52 : decode kc_M_rateFor 52 = .ok (.iload_n 3, 1) := by decide +kernel
theorem kd_M_rateFor_53 : decode kc_M_rateFor 53 = .ok (.invokevirtual 235, 3) := by decide +kernel
theorem kd_M_rateFor_56 : decode kc_M_rateFor 56 = .ok (.ireturn, 1) := by decide +kernel
theorem kd_M_quota_0 : decode kc_M_quota 0 = .ok (.aload_n 0, 1) := by decide +kernel
theorem kd_M_quota_1 : decode kc_M_quota 1 = .ok (.iload_n 1, 1) := by decide +kernel
theorem kd_M_quota_2 : decode kc_M_quota 2 = .ok (.invokevirtual 196, 3) := by decide +kernel
theorem kd_M_quota_5 : decode kc_M_quota 5 = .ok (.ifCond .eq 39, 3) := by decide +kernel
theorem kd_M_quota_8 : decode kc_M_quota 8 = .ok (.iload_n 2, 1) := by decide +kernel
theorem kd_M_quota_9 : decode kc_M_quota 9 = .ok (.iconst 0, 1) := by decide +kernel
theorem kd_M_quota_10 : decode kc_M_quota 10 = .ok (.bipush 7, 2) := by decide +kernel
theorem kd_M_quota_12 : decode kc_M_quota 12 = .ok (.invokestatic 204, 3) := by decide +kernel
theorem kd_M_quota_15 : decode kc_M_quota 15 = .ok (.ifCond .eq 29, 3) := by decide +kernel
theorem kd_M_quota_18 : decode kc_M_quota 18 = .ok (.iload_n 3, 1) := by decide +kernel
theorem kd_M_quota_19 : decode kc_M_quota 19 = .ok (.iconst 1, 1) := by decide +kernel
theorem kd_M_quota_20 : decode kc_M_quota 20 = .ok (.ldc 238, 2) := by decide +kernel
theorem kd_M_quota_22 : decode kc_M_quota 22 = .ok (.invokestatic 204, 3) := by decide +kernel
theorem kd_M_quota_25 : decode kc_M_quota 25 = .ok (.ifCond .eq 19, 3) := by decide +kernel
theorem kd_M_quota_28 : decode kc_M_quota 28 = .ok (.iload 4, 2) := by decide +kernel
theorem kd_M_quota_30 : decode kc_M_quota 30 = .ok (.iconst 0, 1) := by decide +kernel
theorem kd_M_quota_31 : decode kc_M_quota 31 = .ok (.sipush 10000, 3) := by decide +kernel
theorem kd_M_quota_34 : decode kc_M_quota 34 = .ok (.invokestatic 204, 3) := by decide +kernel
theorem kd_M_quota_37 : decode kc_M_quota 37 = .ok (.ifCond .eq 7, 3) := by decide +kernel
theorem kd_M_quota_40 : decode kc_M_quota 40 = .ok (.iconst 1, 1) := by decide +kernel
theorem kd_M_quota_41 : decode kc_M_quota 41 = .ok (.goto 4, 3) := by decide +kernel
theorem kd_M_quota_44 : decode kc_M_quota 44 = .ok (.iconst 0, 1) := by decide +kernel
theorem kd_M_quota_45 : decode kc_M_quota 45 = .ok (.istore 7, 2) := by decide +kernel
theorem kd_M_quota_47 : decode kc_M_quota 47 = .ok (.aload_n 0, 1) := by decide +kernel
theorem kd_M_quota_48 : decode kc_M_quota 48 = .ok (.iload 7, 2) := by decide +kernel
theorem kd_M_quota_50 : decode kc_M_quota 50 = .ok (.ifCond .eq 23, 3) := by decide +kernel
