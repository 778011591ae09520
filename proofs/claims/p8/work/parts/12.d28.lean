theorem kd_M_isMade_178 : decode kc_M_isMade 178 = .ok (.getfield 91, 3) := by decide +kernel
theorem kd_M_isMade_181 : decode kc_M_isMade 181 = .ok (.iload_n 1, 1) := by decide +kernel
theorem kd_M_isMade_182 : decode kc_M_isMade 182 = .ok (.iaload, 1) := by decide +kernel
theorem kd_M_isMade_183 : decode kc_M_isMade 183 = .ok (.if_icmp .eq 7, 3) := by decide +kernel
theorem kd_M_isMade_186 : decode kc_M_isMade 186 = .ok (.iconst 1, 1) := by decide +kernel
theorem kd_M_isMade_187 : decode kc_M_isMade 187 = .ok (.goto 4, 3) := by decide +kernel
theorem kd_M_isMade_190 : decode kc_M_isMade 190 = .ok (.iconst 0, 1) := by decide +kernel
theorem kd_M_isMade_191 : decode kc_M_isMade 191 = .ok (.istore 8, 2) := by decide +kernel
theorem kd_M_isMade_193 : decode kc_M_isMade 193 = .ok (.iinc 9 1, 3) := by decide +kernel
theorem kd_M_isMade_196 : decode kc_M_isMade 196 = .ok (.goto (-137), 3) := by decide +kernel
theorem kd_M_isMade_199 : decode kc_M_isMade 199 = .ok (.aload_n 0, 1) := by decide +kernel
theorem kd_M_isMade_200 : decode kc_M_isMade 200 = .ok (.getfield 13, 3) := by decide +kernel
theorem kd_M_isMade_203 : decode kc_M_isMade 203 = .ok (.iload_n 3, 1) := by decide +kernel
theorem kd_M_isMade_204 : decode kc_M_isMade 204 = .ok (.iaload, 1) := by decide +kernel
theorem kd_M_isMade_205 : decode kc_M_isMade 205 = .ok (.ifCond .ne 8, 3) := by decide +kernel
theorem kd_M_isMade_208 : decode kc_M_isMade 208 = .ok (.iload 8, 2) := by decide +kernel
theorem kd_M_isMade_210 : decode kc_M_isMade 210 = .ok (.goto 28, 3) := by decide +kernel
theorem kd_M_isMade_213 : decode kc_M_isMade 213 = .ok (.ldc2_w 246, 3) := by decide +kernel
theorem kd_M_isMade_216 : decode kc_M_isMade 216 = .ok (.lload 4, 2) := by decide +kernel
theorem kd_M_isMade_218 : decode kc_M_isMade 218 = .ok (.lmul, 1) := by decide +kernel
theorem kd_M_isMade_219 : decode kc_M_isMade 219 = .ok (.aload_n 0, 1) := by decide +kernel
theorem kd_M_isMade_220 : decode kc_M_isMade 220 = .ok (.getfield 16, 3) := by decide +kernel
theorem kd_M_isMade_223 : decode kc_M_isMade 223 = .ok (.iload_n 3, 1) := by decide +kernel
theorem kd_M_isMade_224 : decode kc_M_isMade 224 = .ok (.iaload, 1) := by decide +kernel
theorem kd_M_isMade_225 : decode kc_M_isMade 225 = .ok (.i2l, 1) := by decide +kernel
theorem kd_M_isMade_226 : decode kc_M_isMade 226 = .ok (.lload 6, 2) := by decide +kernel
theorem kd_M_isMade_228 : decode kc_M_isMade 228 = .ok (.lmul, 1) := by decide +kernel
theorem kd_M_isMade_229 : decode kc_M_isMade 229 = .ok (.lcmp, 1) := by decide +kernel
theorem kd_M_isMade_230 : decode kc_M_isMade 230 = .ok (.ifCond .gt 7, 3) := by decide +kernel
theorem kd_M_isMade_233 : decode kc_M_isMade 233 = .ok (.iconst 1, 1) := by decide +kernel
theorem kd_M_isMade_234 : decode kc_M_isMade 234 = .ok (.goto 4, 3) := by decide +kernel
theorem kd_M_isMade_237 : decode kc_M_isMade 237 = .ok (.iconst 0, 1) := by decide +kernel
theorem kd_M_isMade_238 : decode kc_M_isMade 238 = .ok (.ireturn, 1) := by decide +kernel
theorem kd_M_madeIn_0 : decode kc_M_madeIn 0 = .ok (.aload_n 0, 1) := by decide +kernel
theorem kd_M_madeIn_1 : decode kc_M_madeIn 1 = .ok (.iload_n 1, 1) := by decide +kernel
theorem kd_M_madeIn_2 : decode kc_M_madeIn 2 = .ok (.iconst 0, 1) := by decide +kernel
theorem kd_M_madeIn_3 : decode kc_M_madeIn 3 = .ok (.bipush 15, 2) := by decide +kernel
theorem kd_M_madeIn_5 : decode kc_M_madeIn 5 = .ok (.invokestatic 204, 3) := by decide +kernel
theorem kd_M_madeIn_8 : decode kc_M_madeIn 8 = .ok (.ifCond .eq 16, 3) := by decide +kernel
theorem kd_M_madeIn_11 : decode kc_M_madeIn 11 = .ok (.iload_n 2, 1) := by decide +kernel
theorem kd_M_madeIn_12 : decode kc_M_madeIn 12 = .ok (.iconst 0, 1) := by decide +kernel
theorem kd_M_madeIn_13 : decode kc_M_madeIn 13 = .ok (.iconst 3, 1) := by decide +kernel
theorem kd_M_madeIn_14 : decode kc_M_madeIn 14 = .ok (.invokestatic 204, 3) := by decide +kernel
theorem kd_M_madeIn_17 : decode kc_M_madeIn 17 = .ok (.ifCond .eq 7, 3) := by decide +kernel
theorem kd_M_madeIn_20 : decode kc_M_madeIn 20 = .ok (.iconst 0, 1) := by decide +kernel
theorem kd_M_madeIn_21 : decode kc_M_madeIn 21 = .ok (.goto 4, 3) := by decide +kernel
theorem kd_M_madeIn_24 : decode kc_M_madeIn 24 = .ok (.iconst 1, 1) := by decide +kernel
theorem kd_M_madeIn_25 : decode kc_M_madeIn 25 = .ok (.putfield 190, 3) := by decide +kernel
theorem kd_M_madeIn_28 : decode kc_M_madeIn 28 = .ok (.aload_n 0, 1) := by decide +kernel
theorem kd_M_madeIn_29 : decode kc_M_madeIn 29 = .ok (.getfield 190, 3) := by decide +kernel
theorem kd_M_madeIn_32 : decode kc_M_madeIn 32 = .ok (.ifCond .le 5, 3) := by decide +kernel
theorem kd_M_madeIn_35 : decode kc_M_madeIn 35 = .ok (.iconst 0, 1) := by decide +kernel
theorem kd_M_madeIn_36 : decode kc_M_madeIn 36 = .ok (.ireturn, 1) := by decide +kernel
theorem kd_M_madeIn_37 : decode kc_M_madeIn 37 = .ok (.iconst 0, 1) := by decide +kernel
theorem kd_M_madeIn_38 : decode kc_M_madeIn 38 = .ok (.istore_n 3, 1) := by decide +kernel
theorem kd_M_madeIn_39 : decode kc_M_madeIn 39 = .ok (.iload_n 3, 1) := by decide +kernel
theorem kd_M_madeIn_40 : decode kc_M_madeIn 40 = .ok (.bipush 16, 2) := by decide +kernel
theorem kd_M_madeIn_42 : decode kc_M_madeIn 42 = .ok (.if_icmp .ge 27, 3) := by decide +kernel
theorem kd_M_madeIn_45 : decode kc_M_madeIn 45 = .ok (.aload_n 0, 1) := by decide +kernel
theorem kd_M_madeIn_46 : decode kc_M_madeIn 46 = .ok (.getfield 94, 3) := by decide +kernel
theorem kd_M_madeIn_49 : decode kc_M_madeIn 49 = .ok (.iload_n 3, 1) := by decide +kernel
theorem kd_M_madeIn_50 : decode kc_M_madeIn 50 = .ok (.iconst 0, 1) := by decide +kernel
theorem kd_M_madeIn_51 : decode kc_M_madeIn 51 = .ok (.bastore, 1) := by decide +kernel
theorem kd_M_madeIn_52 : decode kc_M_madeIn 52 = .ok (.aload_n 0, 1) := by decide +kernel
theorem kd_M_madeIn_53 : decode kc_M_madeIn 53 = .ok (.getfield 91, 3) := by decide +kernel
theorem kd_M_madeIn_56 : decode kc_M_madeIn 56 = .ok (.iload_n 3, 1) := by decide +kernel
theorem kd_M_madeIn_57 : decode kc_M_madeIn 57 = .ok (.aload_n 0, 1) := by decide +kernel
theorem kd_M_madeIn_58 : decode kc_M_madeIn 58 = .ok (.iload_n 3, 1) := by decide +kernel
theorem kd_M_madeIn_59 : decode kc_M_madeIn 59 = .ok (.invokevirtual 225, 3) := by decide +kernel
theorem kd_M_madeIn_62 : decode kc_M_madeIn 62 = .ok (.iastore, 1) := by decide +kernel
theorem kd_M_madeIn_63 : decode kc_M_madeIn 63 = .ok (.iinc 3 1, 3) := by decide +kernel
theorem kd_M_madeIn_66 : decode kc_M_madeIn 66 = .ok (.goto (-27), 3) := by decide +kernel
theorem kd_M_madeIn_69 : decode kc_M_madeIn 69 = .ok (.iconst 0, 1) := by decide +kernel
theorem kd_M_madeIn_70 : decode kc_M_madeIn 70 = .ok (.istore_n 3, 1) := by decide +kernel
theorem kd_M_madeIn_71 : decode kc_M_madeIn 71 = .ok (.iload_n 3, 1) := by decide +kernel
theorem kd_M_madeIn_72 : decode kc_M_madeIn 72 = .ok (.bipush 16, 2) := by decide +kernel
theorem kd_M_madeIn_74 : decode kc_M_madeIn 74 = .ok (.if_icmp .ge 130, 3) := by decide +kernel
theorem kd_M_madeIn_77 : decode kc_M_madeIn 77 = .ok (.iconst 0, 1) := by decide +kernel
theorem kd_M_madeIn_78 : decode kc_M_madeIn 78 = .ok (.istore 4, 2) := by decide +kernel
theorem kd_M_madeIn_80 : decode kc_M_madeIn 80 = .ok (.iload 4, 2) := by decide +kernel
theorem kd_M_madeIn_82 : decode kc_M_madeIn 82 = .ok (.bipush 16, 2) := by decide +kernel
theorem kd_M_madeIn_84 : decode kc_M_madeIn 84 = .ok (.if_icmp .ge 114, 3) := by decide +kernel
theorem kd_M_madeIn_87 : decode kc_M_madeIn 87 = .ok (.aload_n 0, 1) := by decide +kernel
theorem kd_M_madeIn_88 : decode kc_M_madeIn 88 = .ok (.getfield 94, 3) := by decide +kernel
theorem kd_M_madeIn_91 : decode kc_M_madeIn 91 = .ok (.iload 4, 2) := by decide +kernel
theorem kd_M_madeIn_93 : decode kc_M_madeIn 93 = .ok (.baload, 1) := by decide +kernel
theorem kd_M_madeIn_94 : decode kc_M_madeIn 94 = .ok (.ifCond .ne 7, 3) := by decide +kernel
theorem kd_M_madeIn_97 : decode kc_M_madeIn 97 = .ok (.iconst 1, 1) := by decide +kernel
theorem kd_M_madeIn_98 : decode kc_M_madeIn 98 = .ok (.goto 4, 3) := by decide +kernel
theorem kd_M_madeIn_101 : decode kc_M_madeIn 101 = .ok (.iconst 0, 1) := by decide +kernel
theorem kd_M_madeIn_102 : decode kc_M_madeIn 102 = .ok (.istore 5, 2) := by decide +kernel
theorem kd_M_madeIn_104 : decode kc_M_madeIn 104 = .ok (.iconst 5, 1) := by decide +kernel
theorem kd_M_madeIn_105 : decode kc_M_madeIn 105 = .ok (.iload 4, 2) := by decide +kernel
theorem kd_M_madeIn_107 : decode kc_M_madeIn 107 = .ok (.imul, 1) := by decide +kernel
theorem kd_M_madeIn_108 : decode kc_M_madeIn 108 = .ok (.istore 6, 2) := by decide +kernel
theorem kd_M_madeIn_110 : decode kc_M_madeIn 110 = .ok (.iload 6, 2) := by decide +kernel
theorem kd_M_madeIn_112 : decode kc_M_madeIn 112 = .ok (.iconst 5, 1) := by decide +kernel
theorem kd_M_madeIn_113 : decode kc_M_madeIn 113 = .ok (.iload 4, 2) := by decide +kernel
theorem kd_M_madeIn_115 : decode kc_M_madeIn 115 = .ok (.imul, 1) := by decide +kernel
theorem kd_M_madeIn_116 : decode kc_M_madeIn 116 = .ok (.aload_n 0, 1) := by decide +kernel
theorem kd_M_madeIn_117 : decode kc_M_madeIn 117 = .ok (.getfield 76, 3) := by decide +kernel
theorem kd_M_madeIn_120 : decode kc_M_madeIn 120 = .ok (.iload 4, 2) := by decide +kernel
theorem kd_M_madeIn_122 : decode kc_M_madeIn 122 = .ok (.iaload, 1) := by decide +kernel
theorem kd_M_madeIn_123 : decode kc_M_madeIn 123 = .ok (.iadd, 1) := by decide +kernel
theorem kd_M_madeIn_124 : decode kc_M_madeIn 124 = .ok (.if_icmp .ge 36, 3) := by decide +kernel
theorem kd_M_madeIn_127 : decode kc_M_madeIn 127 = .ok (.iload 5, 2) := by decide +kernel
theorem kd_M_madeIn_129 : decode kc_M_madeIn 129 = .ok (.ifCond .eq 22, 3) := by decide +kernel
theorem kd_M_madeIn_132 : decode kc_M_madeIn 132 = .ok (.aload_n 0, 1) := by decide +kernel
theorem kd_M_madeIn_133 : decode kc_M_madeIn 133 = .ok (.getfield 94, 3) := by decide +kernel
theorem kd_M_madeIn_136 : decode kc_M_madeIn 136 = .ok (.aload_n 0, 1) := by decide +kernel
theorem kd_M_madeIn_137 : decode kc_M_madeIn 137 = .ok (.getfield 79, 3) := by decide +kernel
theorem kd_M_madeIn_140 : decode kc_M_madeIn 140 = .ok (.iload 6, 2) := by decide +kernel
theorem kd_M_madeIn_142 : decode kc_M_madeIn 142 = .ok (.iaload, 1) := by decide +kernel
theorem kd_M_madeIn_143 : decode kc_M_madeIn 143 = .ok (.baload, 1) := by decide +kernel
theorem kd_M_madeIn_144 : decode kc_M_madeIn 144 = .ok (.ifCond .eq 7, 3) := by decide +kernel
theorem kd_M_madeIn_147 : decode kc_M_madeIn 147 = .ok (.iconst 1, 1) := by decide +kernel
theorem kd_M_madeIn_148 : decode kc_M_madeIn 148 = .ok (.goto 4, 3) := by decide +kernel
theorem kd_M_madeIn_151 : decode kc_M_madeIn 151 = .ok (.iconst 0, 1) := by decide +kernel
theorem kd_M_madeIn_152 : decode kc_M_madeIn 152 = .ok (.istore 5, 2) := by decide +kernel
theorem kd_M_madeIn_154 : decode kc_M_madeIn 154 = .ok (.iinc 6 1, 3) := by decide +kernel
theorem kd_M_madeIn_157 : decode kc_M_madeIn 157 = .ok (.goto (-47), 3) := by decide +kernel
theorem kd_M_madeIn_160 : decode kc_M_madeIn 160 = .ok (.iload 5, 2) := by decide +kernel
theorem kd_M_madeIn_162 : decode kc_M_madeIn 162 = .ok (.ifCond .eq 30, 3) := by decide +kernel
theorem kd_M_madeIn_165 : decode kc_M_madeIn 165 = .ok (.aload_n 0, 1) := by decide +kernel
theorem kd_M_madeIn_166 : decode kc_M_madeIn 166 = .ok (.getfield 98, 3) := by decide +kernel
theorem kd_M_madeIn_169 : decode kc_M_madeIn 169 = .ok (.iload 4, 2) := by decide +kernel
theorem kd_M_madeIn_171 : decode kc_M_madeIn 171 = .ok (.aload_n 0, 1) := by decide +kernel
theorem kd_M_madeIn_172 : decode kc_M_madeIn 172 = .ok (.iload 4, 2) := by decide +kernel
theorem kd_M_madeIn_174 : decode kc_M_madeIn 174 = .ok (.aload_n 0, 1) := by decide +kernel
theorem kd_M_madeIn_175 : decode kc_M_madeIn 175 = .ok (.getfield 88, 3) := by decide +kernel
theorem kd_M_madeIn_178 : decode kc_M_madeIn 178 = .ok (.iload_n 2, 1) := by decide +kernel
theorem kd_M_madeIn_179 : decode kc_M_madeIn 179 = .ok (.iaload, 1) := by decide +kernel
theorem kd_M_madeIn_180 : decode kc_M_madeIn 180 = .ok (.invokevirtual 248, 3) := by decide +kernel
theorem kd_M_madeIn_183 : decode kc_M_madeIn 183 = .ok (.bastore, 1) := by decide +kernel
theorem kd_M_madeIn_184 : decode kc_M_madeIn 184 = .ok (.aload_n 0, 1) := by decide +kernel
theorem kd_M_madeIn_185 : decode kc_M_madeIn 185 = .ok (.getfield 94, 3) := by decide +kernel
theorem kd_M_madeIn_188 : decode kc_M_madeIn 188 = .ok (.iload 4, 2) := by decide +kernel
theorem kd_M_madeIn_190 : decode kc_M_madeIn 190 = .ok (.iconst 1, 1) := by decide +kernel
theorem kd_M_madeIn_191 : decode kc_M_madeIn 191 = .ok (.bastore, 1) := by decide +kernel
theorem kd_M_madeIn_192 : decode kc_M_madeIn 192 = .ok (.iinc 4 1, 3) := by decide +kernel
theorem kd_M_madeIn_195 : decode kc_M_madeIn 195 = .ok (.goto (-115), 3) := by decide +kernel
theorem kd_M_madeIn_198 : decode kc_M_madeIn 198 = .ok (.iinc 3 1, 3) := by decide +kernel
theorem kd_M_madeIn_201 : decode kc_M_madeIn 201 = .ok (.goto (-130), 3) := by decide +kernel
theorem kd_M_madeIn_204 : decode kc_M_madeIn 204 = .ok (.aload_n 0, 1) := by decide +kernel
theorem kd_M_madeIn_205 : decode kc_M_madeIn 205 = .ok (.getfield 98, 3) := by decide +kernel
theorem kd_M_madeIn_208 : decode kc_M_madeIn 208 = .ok (.iload_n 1, 1) := by decide +kernel
theorem kd_M_madeIn_209 : decode kc_M_madeIn 209 = .ok (.baload, 1) := by decide +kernel
theorem kd_M_madeIn_210 : decode kc_M_madeIn 210 = .ok (.ireturn, 1) := by decide +kernel
theorem kd_M_isDeclaration_0 : decode kc_M_isDeclaration 0 = .ok (.iload_n 1, 1) := by decide +kernel
theorem kd_M_isDeclaration_1 : decode kc_M_isDeclaration 1 = .ok (.ifCond .lt 15, 3) := by decide +kernel
theorem kd_M_isDeclaration_4 : decode kc_M_isDeclaration 4 = .ok (.iload_n 1, 1) := by decide +kernel
theorem kd_M_isDeclaration_5 : decode kc_M_isDeclaration 5 = .ok (.aload_n 0, 1) := by decide +kernel
theorem kd_M_isDeclaration_6 : decode kc_M_isDeclaration 6 = .ok (.getfield 251, 3) := by decide +kernel
theorem kd_M_isDeclaration_9 : decode kc_M_isDeclaration 9 = .ok (.if_icmp .ge 7, 3) := by decide +kernel
theorem kd_M_isDeclaration_12 : decode kc_M_isDeclaration 12 = .ok (.iconst 1, 1) := by decide +kernel
theorem kd_M_isDeclaration_13 : decode kc_M_isDeclaration 13 = .ok (.goto 4, 3) := by decide +kernel
theorem kd_M_isDeclaration_16 : decode kc_M_isDeclaration 16 = .ok (.iconst 0, 1) := by decide +kernel
theorem kd_M_isDeclaration_17 : decode kc_M_isDeclaration 17 = .ok (.ireturn, 1) := by decide +kernel
theorem kd_M_isLine_0 : decode kc_M_isLine 0 = .ok (.aload_n 0, 1) := by decide +kernel
theorem kd_M_isLine_1 : decode kc_M_isLine 1 = .ok (.iload_n 1, 1) := by decide +kernel
theorem kd_M_isLine_2 : decode kc_M_isLine 2 = .ok (.invokevirtual 254, 3) := by decide +kernel
theorem kd_M_isLine_5 : decode kc_M_isLine 5 = .ok (.ifCond .eq 21, 3) := by decide +kernel
theorem kd_M_isLine_8 : decode kc_M_isLine 8 = .ok (.iload_n 2, 1) := by decide +kernel
theorem kd_M_isLine_9 : decode kc_M_isLine 9 = .ok (.ifCond .lt 17, 3) := by decide +kernel
theorem kd_M_isLine_12 : decode kc_M_isLine 12 = .ok (.iload_n 2, 1) := by decide +kernel
theorem kd_M_isLine_13 : decode kc_M_isLine 13 = .ok (.aload_n 0, 1) := by decide +kernel
theorem kd_M_isLine_14 : decode kc_M_isLine 14 = .ok (.getfield 107, 3) := by decide +kernel
theorem kd_M_isLine_17 : decode kc_M_isLine 17 = .ok (.iload_n 1, 1) := by decide +kernel
theorem kd_M_isLine_18 : decode kc_M_isLine 18 = .ok (.iaload, 1) := by decide +kernel
theorem kd_M_isLine_19 : decode kc_M_isLine 19 = .ok (.if_icmp .ge 7, 3) := by decide +kernel
theorem kd_M_isLine_22 : decode kc_M_isLine 22 = .ok (.iconst 1, 1) := by decide +kernel
theorem kd_M_isLine_23 : decode kc_M_isLine 23 = .ok (.goto 4, 3) := by decide +kernel
theorem kd_M_isLine_26 : decode kc_M_isLine 26 = .ok (.iconst 0, 1) := by decide +kernel
theorem kd_M_isLine_27 : decode kc_M_isLine 27 = .ok (.ireturn, 1) := by decide +kernel
theorem kd_M_declare_0 : decode kc_M_declare 0 = .ok (.aload_n 0, 1) := by decide +kernel
theorem kd_M_declare_1 : decode kc_M_declare 1 = .ok (.iload_n 1, 1) := by decide +kernel
theorem kd_M_declare_2 : decode kc_M_declare 2 = .ok (.iconst 0, 1) := by decide +kernel
theorem kd_M_declare_3 : decode kc_M_declare 3 = .ok (.sipush 9999, 3) := by decide +kernel
theorem kd_M_declare_6 : decode kc_M_declare 6 = .ok (.invokestatic 204, 3) := by decide +kernel
theorem kd_M_declare_9 : decode kc_M_declare 9 = .ok (.ifCond .eq 14, 3) := by decide +kernel
theorem kd_M_declare_12 : decode kc_M_declare 12 = .ok (.iload_n 2, 1) := by decide +kernel
theorem kd_M_declare_13 : decode kc_M_declare 13 = .ok (.iconst 0, 1) := by decide +kernel
theorem kd_M_declare_14 : decode kc_M_declare 14 = .ok (.sipush 1439, 3) := by decide +kernel
theorem kd_M_declare_17 : decode kc_M_declare 17 = .ok (.invokestatic 204, 3) := by decide +kernel
theorem kd_M_declare_20 : decode kc_M_declare 20 = .ok (.ifCond .ne 7, 3) := by decide +kernel
theorem kd_M_declare_23 : decode kc_M_declare 23 = .ok (.iconst 1, 1) := by decide +kernel
theorem kd_M_declare_24 : decode kc_M_declare 24 = .ok (.goto 17, 3) := by decide +kernel
theorem kd_M_declare_27 : decode kc_M_declare 27 = .ok (.aload_n 0, 1) := by decide +kernel
theorem kd_M_declare_28 : decode kc_M_declare 28 = .ok (.getfield 251, 3) := by decide +kernel
theorem kd_M_declare_31 : decode kc_M_declare 31 = .ok (.bipush 12, 2) := by decide +kernel
theorem kd_M_declare_33 : decode kc_M_declare 33 = .ok (.if_icmp .ne 7, 3) := by decide +kernel
theorem kd_M_declare_36 : decode kc_M_declare 36 = .ok (.iconst 2, 1) := by decide +kernel
theorem kd_M_declare_37 : decode kc_M_declare 37 = .ok (.goto 4, 3) := by decide +kernel
theorem kd_M_declare_40 : decode kc_M_declare 40 = .ok (.iconst 0, 1) := by decide +kernel
theorem kd_M_declare_41 : decode kc_M_declare 41 = .ok (.putfield 190, 3) := by decide +kernel
theorem kd_M_declare_44 : decode kc_M_declare 44 = .ok (.aload_n 0, 1) := by decide +kernel
theorem kd_M_declare_45 : decode kc_M_declare 45 = .ok (.getfield 190, 3) := by decide +kernel
theorem kd_M_declare_48 : decode kc_M_declare 48 = .ok (.ifCond .le 5, 3) := by decide +kernel
theorem kd_M_declare_51 : decode kc_M_declare 51 = .ok (.iconst 0, 1) := by decide +kernel
theorem kd_M_declare_52 : decode kc_M_declare 52 = .ok (.ireturn, 1) := by decide +kernel
theorem kd_M_declare_53 : decode kc_M_declare 53 = .ok (.aload_n 0, 1) := by decide +kernel
theorem kd_M_declare_54 : decode kc_M_declare 54 = .ok (.getfield 101, 3) := by decide +kernel
theorem kd_M_declare_57 : decode kc_M_declare 57 = .ok (.aload_n 0, 1) := by decide +kernel
theorem kd_M_declare_58 : decode kc_M_declare 58 = .ok (.getfield 251, 3) := by decide +kernel
theorem kd_M_declare_61 : decode kc_M_declare 61 = .ok (.iload_n 1, 1) := by decide +kernel
theorem kd_M_declare_62 : decode kc_M_declare 62 = .ok (.iastore, 1) := by decide +kernel
theorem kd_M_declare_63 : decode kc_M_declare 63 = .ok (.aload_n 0, 1) := by decide +kernel
theorem kd_M_declare_64 : decode kc_M_declare 64 = .ok (.getfield 104, 3) := by decide +kernel
theorem kd_M_declare_67 : decode kc_M_declare 67 = .ok (.aload_n 0, 1) := by decide +kernel
theorem kd_M_declare_68 : decode kc_M_declare 68 = .ok (.getfield 251, 3) := by decide +kernel
theorem kd_M_declare_71 : decode kc_M_declare 71 = .ok (.iload_n 2, 1) := by decide +kernel
theorem kd_M_declare_72 : decode kc_M_declare 72 = .ok (.iastore, 1) := by decide +kernel
theorem kd_M_declare_73 : decode kc_M_declare 73 = .ok (.aload_n 0, 1) := by decide +kernel
theorem kd_M_declare_74 : decode kc_M_declare 74 = .ok (.dup, 1) := by decide +kernel
theorem kd_M_declare_75 : decode kc_M_declare 75 = .ok (.getfield 251, 3) := by decide +kernel
theorem kd_M_declare_78 : decode kc_M_declare 78 = .ok (.iconst 1, 1) := by decide +kernel
theorem kd_M_declare_79 : decode kc_M_declare 79 = .ok (.iadd, 1) := by decide +kernel
theorem kd_M_declare_80 : decode kc_M_declare 80 = .ok (.putfield 251, 3) := by decide +kernel
theorem kd_M_declare_83 : decode kc_M_declare 83 = .ok (.aload_n 0, 1) := by decide +kernel
theorem kd_M_declare_84 : decode kc_M_declare 84 = .ok (.getfield 251, 3) := by decide +kernel
theorem kd_M_declare_87 : decode kc_M_declare 87 = .ok (.iconst 1, 1) := by decide +kernel
theorem kd_M_declare_88 : decode kc_M_declare 88 = .ok (.isub, 1) := by decide +kernel
theorem kd_M_declare_89 : decode kc_M_declare 89 = .ok (.ireturn, 1) := by decide +kernel
theorem kd_M_isField_0 : decode kc_M_isField 0 = .ok (.iload_n 0, 1) := by decide +kernel
theorem kd_M_isField_1 : decode kc_M_isField 1 = .ok (.ifCond .ne 23, 3) := by decide +kernel
theorem kd_M_isField_4 : decode kc_M_isField 4 = .ok (.iload_n 1, 1) := by decide +kernel
theorem kd_M_isField_5 : decode kc_M_isField 5 = .ok (.iconst 1, 1) := by decide +kernel
theorem kd_M_isField_6 : decode kc_M_isField 6 = .ok (.if_icmp .lt 14, 3) := by decide +kernel
theorem kd_M_isField_9 : decode kc_M_isField 9 = .ok (.iload_n 1, 1) := by decide +kernel
theorem kd_M_isField_10 : decode kc_M_isField 10 = .ok (.sipush 1000, 3) := by decide +kernel
theorem kd_M_isField_13 : decode kc_M_isField 13 = .ok (.if_icmp .gt 7, 3) := by decide +kernel
theorem kd_M_isField_16 : decode kc_M_isField 16 = .ok (.iconst 1, 1) := by decide +kernel
theorem kd_M_isField_17 : decode kc_M_isField 17 = .ok (.goto 33, 3) := by decide +kernel
theorem kd_M_isField_20 : decode kc_M_isField 20 = .ok (.iconst 0, 1) := by decide +kernel
theorem kd_M_isField_21 : decode kc_M_isField 21 = .ok (.goto 29, 3) := by decide +kernel
theorem kd_M_isField_24 : decode kc_M_isField 24 = .ok (.iload_n 1, 1) := by decide +kernel
theorem kd_M_isField_25 : decode kc_M_isField 25 = .ok (.ifCond .lt 24, 3) := by decide +kernel
theorem kd_M_isField_28 : decode kc_M_isField 28 = .ok (.iload_n 1, 1) := by decide +kernel
theorem kd_M_isField_29 : decode kc_M_isField 29 = .ok (.iload_n 0, 1) := by decide +kernel
theorem kd_M_isField_30 : decode kc_M_isField 30 = .ok (.iconst 1, 1) := by decide +kernel
theorem kd_M_isField_31 : decode kc_M_isField 31 = .ok (.if_icmp .ne 8, 3) := by decide +kernel
theorem kd_M_isField_34 : decode kc_M_isField 34 = .ok (.ldc 242, 2) := by decide +kernel
theorem kd_M_isField_36 : decode kc_M_isField 36 = .ok (.goto 6, 3) := by decide +kernel
theorem kd_M_isField_39 : decode kc_M_isField 39 = .ok (.ldc_w 257, 3) := by decide +kernel
theorem kd_M_isField_42 : decode kc_M_isField 42 = .ok (.if_icmp .gt 7, 3) := by decide +kernel
theorem kd_M_isField_45 : decode kc_M_isField 45 = .ok (.iconst 1, 1) := by decide +kernel
theorem kd_M_isField_46 : decode kc_M_isField 46 = .ok (.goto 4, 3) := by decide +kernel
theorem kd_M_isField_49 : decode kc_M_isField 49 = .ok (.iconst 0, 1) := by decide +kernel
theorem kd_M_isField_50 : decode kc_M_isField 50 = .ok (.ireturn, 1) := by decide +kernel
theorem kd_M_line_0 : decode kc_M_line 0 = .ok (.aload_n 0, 1) := by decide +kernel
