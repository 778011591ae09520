theorem kd_M_zone_18 : decode kc_M_zone 18 = .ok (.ifCond .eq 7, 3) := by decide +kernel
theorem kd_M_zone_21 : decode kc_M_zone 21 = .ok (.iconst 0, 1) := by decide +kernel
theorem kd_M_zone_22 : decode kc_M_zone 22 = .ok (.goto 4, 3) := by decide +kernel
theorem kd_M_zone_25 : decode kc_M_zone 25 = .ok (.iconst 1, 1) := by decide +kernel
theorem kd_M_zone_26 : decode kc_M_zone 26 = .ok (.putfield 190, 3) := by decide +kernel
theorem kd_M_zone_29 : decode kc_M_zone 29 = .ok (.aload_n 0, 1) := by decide +kernel
theorem kd_M_zone_30 : decode kc_M_zone 30 = .ok (.getfield 190, 3) := by decide +kernel
theorem kd_M_zone_33 : decode kc_M_zone 33 = .ok (.ifCond .ne 10, 3) := by decide +kernel
theorem kd_M_zone_36 : decode kc_M_zone 36 = .ok (.aload_n 0, 1) := by decide +kernel
theorem kd_M_zone_37 : decode kc_M_zone 37 = .ok (.getfield 88, 3) := by decide +kernel
theorem kd_M_zone_40 : decode kc_M_zone 40 = .ok (.iload_n 1, 1) := by decide +kernel
theorem kd_M_zone_41 : decode kc_M_zone 41 = .ok (.iload_n 2, 1) := by decide +kernel
theorem kd_M_zone_42 : decode kc_M_zone 42 = .ok (.iastore, 1) := by decide +kernel
theorem kd_M_zone_43 : decode kc_M_zone 43 = .ok (.return_, 1) := by decide +kernel
theorem kd_M_rule_0 : decode kc_M_rule 0 = .ok (.aload_n 0, 1) := by decide +kernel
theorem kd_M_rule_1 : decode kc_M_rule 1 = .ok (.aload_n 0, 1) := by decide +kernel
theorem kd_M_rule_2 : decode kc_M_rule 2 = .ok (.iload_n 1, 1) := by decide +kernel
theorem kd_M_rule_3 : decode kc_M_rule 3 = .ok (.invokevirtual 196, 3) := by decide +kernel
theorem kd_M_rule_6 : decode kc_M_rule 6 = .ok (.ifCond .eq 27, 3) := by decide +kernel
theorem kd_M_rule_9 : decode kc_M_rule 9 = .ok (.iload_n 2, 1) := by decide +kernel
theorem kd_M_rule_10 : decode kc_M_rule 10 = .ok (.iconst 0, 1) := by decide +kernel
theorem kd_M_rule_11 : decode kc_M_rule 11 = .ok (.iconst 1, 1) := by decide +kernel
theorem kd_M_rule_12 : decode kc_M_rule 12 = .ok (.invokestatic 204, 3) := by decide +kernel
theorem kd_M_rule_15 : decode kc_M_rule 15 = .ok (.ifCond .eq 18, 3) := by decide +kernel
theorem kd_M_rule_18 : decode kc_M_rule 18 = .ok (.iload_n 3, 1) := by decide +kernel
theorem kd_M_rule_19 : decode kc_M_rule 19 = .ok (.iconst 0, 1) := by decide +kernel
theorem kd_M_rule_20 : decode kc_M_rule 20 = .ok (.sipush 1000, 3) := by decide +kernel
theorem kd_M_rule_23 : decode kc_M_rule 23 = .ok (.invokestatic 204, 3) := by decide +kernel
theorem kd_M_rule_26 : decode kc_M_rule 26 = .ok (.ifCond .eq 7, 3) := by decide +kernel
theorem kd_M_rule_29 : decode kc_M_rule 29 = .ok (.iconst 0, 1) := by decide +kernel
theorem kd_M_rule_30 : decode kc_M_rule 30 = .ok (.goto 4, 3) := by decide +kernel
theorem kd_M_rule_33 : decode kc_M_rule 33 = .ok (.iconst 1, 1) := by decide +kernel
theorem kd_M_rule_34 : decode kc_M_rule 34 = .ok (.putfield 190, 3) := by decide +kernel
theorem kd_M_rule_37 : decode kc_M_rule 37 = .ok (.aload_n 0, 1) := by decide +kernel
theorem kd_M_rule_38 : decode kc_M_rule 38 = .ok (.getfield 190, 3) := by decide +kernel
theorem kd_M_rule_41 : decode kc_M_rule 41 = .ok (.ifCond .ne 17, 3) := by decide +kernel
theorem kd_M_rule_44 : decode kc_M_rule 44 = .ok (.aload_n 0, 1) := by decide +kernel
theorem kd_M_rule_45 : decode kc_M_rule 45 = .ok (.getfield 13, 3) := by decide +kernel
theorem kd_M_rule_48 : decode kc_M_rule 48 = .ok (.iload_n 1, 1) := by decide +kernel
theorem kd_M_rule_49 : decode kc_M_rule 49 = .ok (.iload_n 2, 1) := by decide +kernel
theorem kd_M_rule_50 : decode kc_M_rule 50 = .ok (.iastore, 1) := by decide +kernel
theorem kd_M_rule_51 : decode kc_M_rule 51 = .ok (.aload_n 0, 1) := by decide +kernel
theorem kd_M_rule_52 : decode kc_M_rule 52 = .ok (.getfield 16, 3) := by decide +kernel
theorem kd_M_rule_55 : decode kc_M_rule 55 = .ok (.iload_n 1, 1) := by decide +kernel
theorem kd_M_rule_56 : decode kc_M_rule 56 = .ok (.iload_n 3, 1) := by decide +kernel
theorem kd_M_rule_57 : decode kc_M_rule 57 = .ok (.iastore, 1) := by decide +kernel
theorem kd_M_rule_58 : decode kc_M_rule 58 = .ok (.return_, 1) := by decide +kernel
theorem kd_M_isMade_0 : decode kc_M_isMade 0 = .ok (.aload_n 0, 1) := by decide +kernel
theorem kd_M_isMade_1 : decode kc_M_isMade 1 = .ok (.getfield 91, 3) := by decide +kernel
theorem kd_M_isMade_4 : decode kc_M_isMade 4 = .ok (.iload_n 1, 1) := by decide +kernel
theorem kd_M_isMade_5 : decode kc_M_isMade 5 = .ok (.iaload, 1) := by decide +kernel
theorem kd_M_isMade_6 : decode kc_M_isMade 6 = .ok (.istore_n 3, 1) := by decide +kernel
theorem kd_M_isMade_7 : decode kc_M_isMade 7 = .ok (.iload_n 3, 1) := by decide +kernel
theorem kd_M_isMade_8 : decode kc_M_isMade 8 = .ok (.ifCond .lt 22, 3) := by decide +kernel
theorem kd_M_isMade_11 : decode kc_M_isMade 11 = .ok (.aload_n 0, 1) := by decide +kernel
theorem kd_M_isMade_12 : decode kc_M_isMade 12 = .ok (.getfield 13, 3) := by decide +kernel
theorem kd_M_isMade_15 : decode kc_M_isMade 15 = .ok (.iload_n 3, 1) := by decide +kernel
theorem kd_M_isMade_16 : decode kc_M_isMade 16 = .ok (.iaload, 1) := by decide +kernel
theorem kd_M_isMade_17 : decode kc_M_isMade 17 = .ok (.ifCond .ge 13, 3) := by decide +kernel
theorem kd_M_isMade_20 : decode kc_M_isMade 20 = .ok (.aload_n 0, 1) := by decide +kernel
theorem kd_M_isMade_21 : decode kc_M_isMade 21 = .ok (.getfield 7, 3) := by decide +kernel
theorem kd_M_isMade_24 : decode kc_M_isMade 24 = .ok (.iload_n 3, 1) := by decide +kernel
theorem kd_M_isMade_25 : decode kc_M_isMade 25 = .ok (.iaload, 1) := by decide +kernel
theorem kd_M_isMade_26 : decode kc_M_isMade 26 = .ok (.istore_n 3, 1) := by decide +kernel
theorem kd_M_isMade_27 : decode kc_M_isMade 27 = .ok (.goto (-20), 3) := by decide +kernel
theorem kd_M_isMade_30 : decode kc_M_isMade 30 = .ok (.iload_n 3, 1) := by decide +kernel
theorem kd_M_isMade_31 : decode kc_M_isMade 31 = .ok (.ifCond .lt 12, 3) := by decide +kernel
theorem kd_M_isMade_34 : decode kc_M_isMade 34 = .ok (.aload_n 0, 1) := by decide +kernel
theorem kd_M_isMade_35 : decode kc_M_isMade 35 = .ok (.getfield 76, 3) := by decide +kernel
theorem kd_M_isMade_38 : decode kc_M_isMade 38 = .ok (.iload_n 1, 1) := by decide +kernel
theorem kd_M_isMade_39 : decode kc_M_isMade 39 = .ok (.iaload, 1) := by decide +kernel
theorem kd_M_isMade_40 : decode kc_M_isMade 40 = .ok (.ifCond .ne 5, 3) := by decide +kernel
theorem kd_M_isMade_43 : decode kc_M_isMade 43 = .ok (.iconst 0, 1) := by decide +kernel
theorem kd_M_isMade_44 : decode kc_M_isMade 44 = .ok (.ireturn, 1) := by decide +kernel
theorem kd_M_isMade_45 : decode kc_M_isMade 45 = .ok (.lconst 0, 1) := by decide +kernel
theorem kd_M_isMade_46 : decode kc_M_isMade 46 = .ok (.lstore 4, 2) := by decide +kernel
theorem kd_M_isMade_48 : decode kc_M_isMade 48 = .ok (.lconst 0, 1) := by decide +kernel
theorem kd_M_isMade_49 : decode kc_M_isMade 49 = .ok (.lstore 6, 2) := by decide +kernel
theorem kd_M_isMade_51 : decode kc_M_isMade 51 = .ok (.iconst 1, 1) := by decide +kernel
theorem kd_M_isMade_52 : decode kc_M_isMade 52 = .ok (.istore 8, 2) := by decide +kernel
theorem kd_M_isMade_54 : decode kc_M_isMade 54 = .ok (.iconst 5, 1) := by decide +kernel
theorem kd_M_isMade_55 : decode kc_M_isMade 55 = .ok (.iload_n 1, 1) := by decide +kernel
theorem kd_M_isMade_56 : decode kc_M_isMade 56 = .ok (.imul, 1) := by decide +kernel
theorem kd_M_isMade_57 : decode kc_M_isMade 57 = .ok (.istore 9, 2) := by decide +kernel
theorem kd_M_isMade_59 : decode kc_M_isMade 59 = .ok (.iload 9, 2) := by decide +kernel
theorem kd_M_isMade_61 : decode kc_M_isMade 61 = .ok (.iconst 5, 1) := by decide +kernel
theorem kd_M_isMade_62 : decode kc_M_isMade 62 = .ok (.iload_n 1, 1) := by decide +kernel
theorem kd_M_isMade_63 : decode kc_M_isMade 63 = .ok (.imul, 1) := by decide +kernel
theorem kd_M_isMade_64 : decode kc_M_isMade 64 = .ok (.aload_n 0, 1) := by decide +kernel
theorem kd_M_isMade_65 : decode kc_M_isMade 65 = .ok (.getfield 76, 3) := by decide +kernel
theorem kd_M_isMade_68 : decode kc_M_isMade 68 = .ok (.iload_n 1, 1) := by decide +kernel
theorem kd_M_isMade_69 : decode kc_M_isMade 69 = .ok (.iaload, 1) := by decide +kernel
theorem kd_M_isMade_70 : decode kc_M_isMade 70 = .ok (.iadd, 1) := by decide +kernel
theorem kd_M_isMade_71 : decode kc_M_isMade 71 = .ok (.if_icmp .ge 128, 3) := by decide +kernel
theorem kd_M_isMade_74 : decode kc_M_isMade 74 = .ok (.aload_n 0, 1) := by decide +kernel
theorem kd_M_isMade_75 : decode kc_M_isMade 75 = .ok (.getfield 79, 3) := by decide +kernel
theorem kd_M_isMade_78 : decode kc_M_isMade 78 = .ok (.iload 9, 2) := by decide +kernel
theorem kd_M_isMade_80 : decode kc_M_isMade 80 = .ok (.iaload, 1) := by decide +kernel
theorem kd_M_isMade_81 : decode kc_M_isMade 81 = .ok (.istore 10, 2) := by decide +kernel
theorem kd_M_isMade_83 : decode kc_M_isMade 83 = .ok (.iload_n 2, 1) := by decide +kernel
theorem kd_M_isMade_84 : decode kc_M_isMade 84 = .ok (.aload_n 0, 1) := by decide +kernel
theorem kd_M_isMade_85 : decode kc_M_isMade 85 = .ok (.getfield 85, 3) := by decide +kernel
theorem kd_M_isMade_88 : decode kc_M_isMade 88 = .ok (.iload 9, 2) := by decide +kernel
theorem kd_M_isMade_90 : decode kc_M_isMade 90 = .ok (.iaload, 1) := by decide +kernel
theorem kd_M_isMade_91 : decode kc_M_isMade 91 = .ok (.ishr, 1) := by decide +kernel
theorem kd_M_isMade_92 : decode kc_M_isMade 92 = .ok (.iconst 1, 1) := by decide +kernel
theorem kd_M_isMade_93 : decode kc_M_isMade 93 = .ok (.iand, 1) := by decide +kernel
theorem kd_M_isMade_94 : decode kc_M_isMade 94 = .ok (.ifCond .eq 23, 3) := by decide +kernel
theorem kd_M_isMade_97 : decode kc_M_isMade 97 = .ok (.aload_n 0, 1) := by decide +kernel
theorem kd_M_isMade_98 : decode kc_M_isMade 98 = .ok (.getfield 76, 3) := by decide +kernel
theorem kd_M_isMade_101 : decode kc_M_isMade 101 = .ok (.iload 10, 2) := by decide +kernel
theorem kd_M_isMade_103 : decode kc_M_isMade 103 = .ok (.iaload, 1) := by decide +kernel
theorem kd_M_isMade_104 : decode kc_M_isMade 104 = .ok (.ifCond .le 17, 3) := by decide +kernel
theorem kd_M_isMade_107 : decode kc_M_isMade 107 = .ok (.aload_n 0, 1) := by decide +kernel
theorem kd_M_isMade_108 : decode kc_M_isMade 108 = .ok (.getfield 98, 3) := by decide +kernel
theorem kd_M_isMade_111 : decode kc_M_isMade 111 = .ok (.iload 10, 2) := by decide +kernel
theorem kd_M_isMade_113 : decode kc_M_isMade 113 = .ok (.baload, 1) := by decide +kernel
theorem kd_M_isMade_114 : decode kc_M_isMade 114 = .ok (.ifCond .ne 7, 3) := by decide +kernel
theorem kd_M_isMade_117 : decode kc_M_isMade 117 = .ok (.iconst 1, 1) := by decide +kernel
theorem kd_M_isMade_118 : decode kc_M_isMade 118 = .ok (.goto 4, 3) := by decide +kernel
theorem kd_M_isMade_121 : decode kc_M_isMade 121 = .ok (.iconst 0, 1) := by decide +kernel
theorem kd_M_isMade_122 : decode kc_M_isMade 122 = .ok (.istore 11, 2) := by decide +kernel
theorem kd_M_isMade_124 : decode kc_M_isMade 124 = .ok (.lload 6, 2) := by decide +kernel
theorem kd_M_isMade_126 : decode kc_M_isMade 126 = .ok (.aload_n 0, 1) := by decide +kernel
theorem kd_M_isMade_127 : decode kc_M_isMade 127 = .ok (.getfield 82, 3) := by decide +kernel
theorem kd_M_isMade_130 : decode kc_M_isMade 130 = .ok (.iload 9, 2) := by decide +kernel
theorem kd_M_isMade_132 : decode kc_M_isMade 132 = .ok (.iaload, 1) := by decide +kernel
theorem kd_M_isMade_133 : decode kc_M_isMade 133 = .ok (.i2l, 1) := by decide +kernel
theorem kd_M_isMade_134 : decode kc_M_isMade 134 = .ok (.ladd, 1) := by decide +kernel
theorem kd_M_isMade_135 : decode kc_M_isMade 135 = .ok (.lstore 6, 2) := by decide +kernel
theorem kd_M_isMade_137 : decode kc_M_isMade 137 = .ok (.iload 11, 2) := by decide +kernel
theorem kd_M_isMade_139 : decode kc_M_isMade 139 = .ok (.ifCond .eq 17, 3) := by decide +kernel
theorem kd_M_isMade_142 : decode kc_M_isMade 142 = .ok (.lload 4, 2) := by decide +kernel
theorem kd_M_isMade_144 : decode kc_M_isMade 144 = .ok (.aload_n 0, 1) := by decide +kernel
theorem kd_M_isMade_145 : decode kc_M_isMade 145 = .ok (.getfield 82, 3) := by decide +kernel
theorem kd_M_isMade_148 : decode kc_M_isMade 148 = .ok (.iload 9, 2) := by decide +kernel
theorem kd_M_isMade_150 : decode kc_M_isMade 150 = .ok (.iaload, 1) := by decide +kernel
theorem kd_M_isMade_151 : decode kc_M_isMade 151 = .ok (.i2l, 1) := by decide +kernel
theorem kd_M_isMade_152 : decode kc_M_isMade 152 = .ok (.ladd, 1) := by decide +kernel
theorem kd_M_isMade_153 : decode kc_M_isMade 153 = .ok (.goto 5, 3) := by decide +kernel
theorem kd_M_isMade_156 : decode kc_M_isMade 156 = .ok (.lload 4, 2) := by decide +kernel
theorem kd_M_isMade_158 : decode kc_M_isMade 158 = .ok (.lstore 4, 2) := by decide +kernel
theorem kd_M_isMade_160 : decode kc_M_isMade 160 = .ok (.iload 8, 2) := by decide +kernel
theorem kd_M_isMade_162 : decode kc_M_isMade 162 = .ok (.ifCond .eq 28, 3) := by decide +kernel
theorem kd_M_isMade_165 : decode kc_M_isMade 165 = .ok (.iload 11, 2) := by decide +kernel
theorem kd_M_isMade_167 : decode kc_M_isMade 167 = .ok (.ifCond .eq 19, 3) := by decide +kernel
theorem kd_M_isMade_170 : decode kc_M_isMade 170 = .ok (.aload_n 0, 1) := by decide +kernel
theorem kd_M_isMade_171 : decode kc_M_isMade 171 = .ok (.getfield 91, 3) := by decide +kernel
theorem kd_M_isMade_174 : decode kc_M_isMade 174 = .ok (.iload 10, 2) := by decide +kernel
theorem kd_M_isMade_176 : decode kc_M_isMade 176 = .ok (.iaload, 1) := by decide +kernel
theorem kd_M_isMade_177 : decode kc_M_isMade 177 = .ok (.aload_n 0, 1) := by decide +kernel
theorem kd_M_isMade_178 : decode kc_M_isMade 178 = .ok (.getfield 91, 3) := by decide +kernel
theorem kd_M_isMade_181 : decode kc_M_isMade 181 = .ok (.iload_n 1, 1) := by decide +kernel
theorem kd_M_isMade_182 : decode kc_M_isMade 182 = .ok (.iaload, 1) := by decide +kernel
theorem kd_M_isMade_183 : decode kc_M_isMade 183 = .ok (.if_icmp .eq 7, 3) := by decide +kernel
theorem kd_M_isMade_186 : decode kc_M_isMade 186 = .ok (.iconst 1, 1) := by decide +kernel
theorem kd_M_isMade_187 : decode kc_M_isMade 187 = .ok (.goto 4, 3) := by decide +kernel
theorem kd_M_isMade_190 : decode kc_M_isMade 190 = .ok (.iconst 0, 1) := by decide +kernel
theorem kd_M_isMade_191 : decode kc_M_isMade 191 = .ok (.istore 8, 2) := by decide +kernel
theorem kd_M_isMade_193 : decode kc_M_isMade 193 = .ok (.iinc 9 1, 3) := by decide +kernel
theorem kd_M_isMade_196 : decode kc_M_isMade 196 = .ok (.goto (-137), 3) := by decide +kernel
theorem kd_M_isMade_199 : decode kc_M_isMade 199 = .ok (.aload_n 0, 1) := by decide +kernel
theorem kd_M_isMade_200 : decode kc_M_isMade 200 = .ok (.getfield 13, 3) := by decide +kernel
theorem kd_M_isMade_203 : decode kc_M_isMade 203 = .ok (.iload_n 3, 1) := by decide +kernel
theorem kd_M_isMade_204 : decode kc_M_isMade 204 = .ok (.iaload, 1) := by decide +kernel
theorem kd_M_isMade_205 : decode kc_M_isMade 205 = .ok (.ifCond .ne 8, 3) := by decide +kernel
theorem kd_M_isMade_208 : decode kc_M_isMade 208 = .ok (.iload 8, 2) := by decide +kernel
theorem kd_M_isMade_210 : decode kc_M_isMade 210 = .ok (.goto 28, 3) := by decide +kernel
theorem kd_M_isMade_213 : decode kc_M_isMade 213 = .ok (.ldc2_w 246, 3) := by decide +kernel
theorem kd_M_isMade_216 : decode kc_M_isMade 216 = .ok (.lload 4, 2) := by decide +kernel
theorem kd_M_isMade_218 : decode kc_M_isMade 218 = .ok (.lmul, 1) := by decide +kernel
theorem kd_M_isMade_219 : decode kc_M_isMade 219 = .ok (.aload_n 0, 1) := by decide +kernel
theorem kd_M_isMade_220 : decode kc_M_isMade 220 = .ok (.getfield 16, 3) := by decide +kernel
theorem kd_M_isMade_223 : decode kc_M_isMade 223 = .ok (.iload_n 3, 1) := by decide +kernel
theorem kd_M_isMade_224 : decode kc_M_isMade 224 = .ok (.iaload, 1) := by decide +kernel
theorem kd_M_isMade_225 : decode kc_M_isMade 225 = .ok (.i2l, 1) := by decide +kernel
theorem kd_M_isMade_226 : decode kc_M_isMade 226 = .ok (.lload 6, 2) := by decide +kernel
theorem kd_M_isMade_228 : decode kc_M_isMade 228 = .ok (.lmul, 1) := by decide +kernel
theorem kd_M_isMade_229 : decode kc_M_isMade 229 = .ok (.lcmp, 1) := by decide +kernel
theorem kd_M_isMade_230 : decode kc_M_isMade 230 = .ok (.ifCond .gt 7, 3) := by decide +kernel
theorem kd_M_isMade_233 : decode kc_M_isMade 233 = .ok (.iconst 1, 1) := by decide +kernel
theorem kd_M_isMade_234 : decode kc_M_isMade 234 = .ok (.goto 4, 3) := by decide +kernel
theorem kd_M_isMade_237 : decode kc_M_isMade 237 = .ok (.iconst 0, 1) := by decide +kernel
theorem kd_M_isMade_238 : decode kc_M_isMade 238 = .ok (.ireturn, 1) := by decide +kernel
theorem kd_M_madeIn_0 : decode kc_M_madeIn 0 = .ok (.aload_n 0, 1) := by decide +kernel
theorem kd_M_madeIn_1 : decode kc_M_madeIn 1 = .ok (.iload_n 1, 1) := by decide +kernel
theorem kd_M_madeIn_2 : decode kc_M_madeIn 2 = .ok (.iconst 0, 1) := by decide +kernel
theorem kd_M_madeIn_3 : decode kc_M_madeIn 3 = .ok (.bipush 15, 2) := by decide +kernel
theorem kd_M_madeIn_5 : decode kc_M_madeIn 5 = .ok (.invokestatic 204, 3) := by decide +kernel
theorem kd_M_madeIn_8 : decode kc_M_madeIn 8 = .ok (.ifCond .eq 16, 3) := by decide +kernel
theorem kd_M_madeIn_11 : decode kc_M_madeIn 11 = .ok (.iload_n 2, 1) := by decide +kernel
theorem kd_M_madeIn_12 : decode kc_M_madeIn 12 = .ok (.iconst 0, 1) := by decide +kernel
theorem kd_M_madeIn_13 : decode kc_M_madeIn 13 = .ok (.iconst 3, 1) := by decide +kernel
theorem kd_M_madeIn_14 : decode kc_M_madeIn 14 = .ok (.invokestatic 204, 3) := by decide +kernel
theorem kd_M_madeIn_17 : decode kc_M_madeIn 17 = .ok (.ifCond .eq 7, 3) := by decide +kernel
theorem kd_M_madeIn_20 : decode kc_M_madeIn 20 = .ok (.iconst 0, 1) := by decide +kernel
theorem kd_M_madeIn_21 : decode kc_M_madeIn 21 = .ok (.goto 4, 3) := by decide +kernel
theorem kd_M_madeIn_24 : decode kc_M_madeIn 24 = .ok (.iconst 1, 1) := by decide +kernel
theorem kd_M_madeIn_25 : decode kc_M_madeIn 25 = .ok (.putfield 190, 3) := by decide +kernel
theorem kd_M_madeIn_28 : decode kc_M_madeIn 28 = .ok (.aload_n 0, 1) := by decide +kernel
theorem kd_M_madeIn_29 : decode kc_M_madeIn 29 = .ok (.getfield 190, 3) := by decide +kernel
theorem kd_M_madeIn_32 : decode kc_M_madeIn 32 = .ok (.ifCond .le 5, 3) := by decide +kernel
theorem kd_M_madeIn_35 : decode kc_M_madeIn 35 = .ok (.iconst 0, 1) := by decide +kernel
theorem kd_M_madeIn_36 : decode kc_M_madeIn 36 = .ok (.ireturn, 1) := by decide +kernel
theorem kd_M_madeIn_37 : decode kc_M_madeIn 37 = .ok (.iconst 0, 1) := by decide +kernel
theorem kd_M_madeIn_38 : decode kc_M_madeIn 38 = .ok (.istore_n 3, 1) := by decide +kernel
theorem kd_M_madeIn_39 : decode kc_M_madeIn 39 = .ok (.iload_n 3, 1) := by decide +kernel
theorem kd_M_madeIn_40 : decode kc_M_madeIn 40 = .ok (.bipush 16, 2) := by decide +kernel
theorem kd_M_madeIn_42 : decode kc_M_madeIn 42 = .ok (.if_icmp .ge 27, 3) := by decide +kernel
theorem kd_M_madeIn_45 : decode kc_M_madeIn 45 = .ok (.aload_n 0, 1) := by decide +kernel
theorem kd_M_madeIn_46 : decode kc_M_madeIn 46 = .ok (.getfield 94, 3) := by decide +kernel
theorem kd_M_madeIn_49 : decode kc_M_madeIn 49 = .ok (.iload_n 3, 1) := by decide +kernel
theorem kd_M_madeIn_50 : decode kc_M_madeIn 50 = .ok (.iconst 0, 1) := by decide +kernel
theorem kd_M_madeIn_51 : decode kc_M_madeIn 51 = .ok (.bastore, 1) := by decide +kernel
theorem kd_M_madeIn_52 : decode kc_M_madeIn 52 = .ok (.aload_n 0, 1) := by decide +kernel
theorem kd_M_madeIn_53 : decode kc_M_madeIn 53 = .ok (.getfield 91, 3) := by decide +kernel
theorem kd_M_madeIn_56 : decode kc_M_madeIn 56 = .ok (.iload_n 3, 1) := by decide +kernel
theorem kd_M_madeIn_57 : decode kc_M_madeIn 57 = .ok (.aload_n 0, 1) := by decide +kernel
theorem kd_M_madeIn_58 : decode kc_M_madeIn 58 = .ok (.iload_n 3, 1) := by decide +kernel
theorem kd_M_madeIn_59 : decode kc_M_madeIn 59 = .ok (.invokevirtual 225, 3) := by decide +kernel
theorem kd_M_madeIn_62 : decode kc_M_madeIn 62 = .ok (.iastore, 1) := by decide +kernel
theorem kd_M_madeIn_63 : decode kc_M_madeIn 63 = .ok (.iinc 3 1, 3) := by decide +kernel
theorem kd_M_madeIn_66 : decode kc_M_madeIn 66 = .ok (.goto (-27), 3) := by decide +kernel
theorem kd_M_madeIn_69 : decode kc_M_madeIn 69 = .ok (.iconst 0, 1) := by decide +kernel
theorem kd_M_madeIn_70 : decode kc_M_madeIn 70 = .ok (.istore_n 3, 1) := by decide +kernel
theorem kd_M_madeIn_71 : decode kc_M_madeIn 71 = .ok (.iload_n 3, 1) := by decide +kernel
theorem kd_M_madeIn_72 : decode kc_M_madeIn 72 = .ok (.bipush 16, 2) := by decide +kernel
theorem kd_M_madeIn_74 : decode kc_M_madeIn 74 = .ok (.if_icmp .ge 130, 3) := by decide +kernel
theorem kd_M_madeIn_77 : decode kc_M_madeIn 77 = .ok (.iconst 0, 1) := by decide +kernel
theorem kd_M_madeIn_78 : decode kc_M_madeIn 78 = .ok (.istore 4, 2) := by decide +kernel
theorem kd_M_madeIn_80 : decode kc_M_madeIn 80 = .ok (.iload 4, 2) := by decide +kernel
theorem kd_M_madeIn_82 : decode kc_M_madeIn 82 = .ok (.bipush 16, 2) := by decide +kernel
theorem kd_M_madeIn_84 : decode kc_M_madeIn 84 = .ok (.if_icmp .ge 114, 3) := by decide +kernel
theorem kd_M_madeIn_87 : decode kc_M_madeIn 87 = .ok (.aload_n 0, 1) := by decide +kernel
theorem kd_M_madeIn_88 : decode kc_M_madeIn 88 = .ok (.getfield 94, 3) := by decide +kernel
theorem kd_M_madeIn_91 : decode kc_M_madeIn 91 = .ok (.iload 4, 2) := by decide +kernel
theorem kd_M_madeIn_93 : decode kc_M_madeIn 93 = .ok (.baload, 1) := by decide +kernel
theorem kd_M_madeIn_94 : decode kc_M_madeIn 94 = .ok (.ifCond .ne 7, 3) := by decide +kernel
theorem kd_M_madeIn_97 : decode kc_M_madeIn 97 = .ok (.iconst 1, 1) := by decide +kernel
theorem kd_M_madeIn_98 : decode kc_M_madeIn 98 = .ok (.goto 4, 3) := by decide +kernel
theorem kd_M_madeIn_101 : decode kc_M_madeIn 101 = .ok (.iconst 0, 1) := by decide +kernel
theorem kd_M_madeIn_102 : decode kc_M_madeIn 102 = .ok (.istore 5, 2) := by decide +kernel
theorem kd_M_madeIn_104 : decode kc_M_madeIn 104 = .ok (.iconst 5, 1) := by decide +kernel
theorem kd_M_madeIn_105 : decode kc_M_madeIn 105 = .ok (.iload 4, 2) := by decide +kernel
theorem kd_M_madeIn_107 : decode kc_M_madeIn 107 = .ok (.imul, 1) := by decide +kernel
theorem kd_M_madeIn_108 : decode kc_M_madeIn 108 = .ok (.istore 6, 2) := by decide +kernel
theorem kd_M_madeIn_110 : decode kc_M_madeIn 110 = .ok (.iload 6, 2) := by decide +kernel
theorem kd_M_madeIn_112 : decode kc_M_madeIn 112 = .ok (.iconst 5, 1) := by decide +kernel
theorem kd_M_madeIn_113 : decode kc_M_madeIn 113 = .ok (.iload 4, 2) := by decide +kernel
theorem kd_M_madeIn_115 : decode kc_M_madeIn 115 = .ok (.imul, 1) := by decide +kernel
