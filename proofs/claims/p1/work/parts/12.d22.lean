theorem kd_M_accept_185 : decode kc_M_accept 185 = .ok (.iinc 4 1, 3) := by decide +kernel
theorem kd_M_accept_188 : decode kc_M_accept 188 = .ok (.goto (-93), 3) := by decide +kernel
theorem kd_M_accept_191 : decode kc_M_accept 191 = .ok (.aload_n 0, 1) := by decide +kernel
theorem kd_M_accept_192 : decode kc_M_accept 192 = .ok (.getfield 113, 3) := by decide +kernel
theorem kd_M_accept_195 : decode kc_M_accept 195 = .ok (.iload_n 1, 1) := by decide +kernel
theorem kd_M_accept_196 : decode kc_M_accept 196 = .ok (.iconst 1, 1) := by decide +kernel
theorem kd_M_accept_197 : decode kc_M_accept 197 = .ok (.bastore, 1) := by decide +kernel
theorem kd_M_accept_198 : decode kc_M_accept 198 = .ok (.aload_n 0, 1) := by decide +kernel
theorem kd_M_accept_199 : decode kc_M_accept 199 = .ok (.iload_n 1, 1) := by decide +kernel
theorem kd_M_accept_200 : decode kc_M_accept 200 = .ok (.putfield 116, 3) := by decide +kernel
theorem kd_M_accept_203 : decode kc_M_accept 203 = .ok (.lload_n 2, 1) := by decide +kernel
theorem kd_M_accept_204 : decode kc_M_accept 204 = .ok (.lreturn, 1) := by decide +kernel
theorem kd_M_amend_0 : decode kc_M_amend 0 = .ok (.aload_n 0, 1) := by decide +kernel
theorem kd_M_amend_1 : decode kc_M_amend 1 = .ok (.aload_n 0, 1) := by decide +kernel
theorem kd_M_amend_2 : decode kc_M_amend 2 = .ok (.iload_n 1, 1) := by decide +kernel
theorem kd_M_amend_3 : decode kc_M_amend 3 = .ok (.iload_n 2, 1) := by decide +kernel
theorem kd_M_amend_4 : decode kc_M_amend 4 = .ok (.invokevirtual 290, 3) := by decide +kernel
theorem kd_M_amend_7 : decode kc_M_amend 7 = .ok (.ifCond .eq 21, 3) := by decide +kernel
theorem kd_M_amend_10 : decode kc_M_amend 10 = .ok (.iload_n 3, 1) := by decide +kernel
theorem kd_M_amend_11 : decode kc_M_amend 11 = .ok (.iconst 0, 1) := by decide +kernel
theorem kd_M_amend_12 : decode kc_M_amend 12 = .ok (.iconst 2, 1) := by decide +kernel
theorem kd_M_amend_13 : decode kc_M_amend 13 = .ok (.invokestatic 204, 3) := by decide +kernel
theorem kd_M_amend_16 : decode kc_M_amend 16 = .ok (.ifCond .eq 12, 3) := by decide +kernel
theorem kd_M_amend_19 : decode kc_M_amend 19 = .ok (.iload_n 3, 1) := by decide +kernel
theorem kd_M_amend_20 : decode kc_M_amend 20 = .ok (.iload 4, 2) := by decide +kernel
theorem kd_M_amend_22 : decode kc_M_amend 22 = .ok (.invokestatic 258, 3) := by decide +kernel
theorem kd_M_amend_25 : decode kc_M_amend 25 = .ok (.ifCond .ne 7, 3) := by decide +kernel
theorem kd_M_amend_28 : decode kc_M_amend 28 = .ok (.iconst 1, 1) := by decide +kernel
theorem kd_M_amend_29 : decode kc_M_amend 29 = .ok (.goto 28, 3) := by decide +kernel
theorem kd_M_amend_32 : decode kc_M_amend 32 = .ok (.aload_n 0, 1) := by decide +kernel
theorem kd_M_amend_33 : decode kc_M_amend 33 = .ok (.iload_n 1, 1) := by decide +kernel
theorem kd_M_amend_34 : decode kc_M_amend 34 = .ok (.invokevirtual 316, 3) := by decide +kernel
theorem kd_M_amend_37 : decode kc_M_amend 37 = .ok (.ifCond .ne 7, 3) := by decide +kernel
theorem kd_M_amend_40 : decode kc_M_amend 40 = .ok (.iconst 2, 1) := by decide +kernel
theorem kd_M_amend_41 : decode kc_M_amend 41 = .ok (.goto 16, 3) := by decide +kernel
theorem kd_M_amend_44 : decode kc_M_amend 44 = .ok (.aload_n 0, 1) := by decide +kernel
theorem kd_M_amend_45 : decode kc_M_amend 45 = .ok (.iload_n 1, 1) := by decide +kernel
theorem kd_M_amend_46 : decode kc_M_amend 46 = .ok (.invokevirtual 293, 3) := by decide +kernel
theorem kd_M_amend_49 : decode kc_M_amend 49 = .ok (.ifCond .ne 7, 3) := by decide +kernel
theorem kd_M_amend_52 : decode kc_M_amend 52 = .ok (.iconst 3, 1) := by decide +kernel
theorem kd_M_amend_53 : decode kc_M_amend 53 = .ok (.goto 4, 3) := by decide +kernel
theorem kd_M_amend_56 : decode kc_M_amend 56 = .ok (.iconst 0, 1) := by decide +kernel
theorem kd_M_amend_57 : decode kc_M_amend 57 = .ok (.putfield 190, 3) := by decide +kernel
theorem kd_M_amend_60 : decode kc_M_amend 60 = .ok (.aload_n 0, 1) := by decide +kernel
theorem kd_M_amend_61 : decode kc_M_amend 61 = .ok (.getfield 190, 3) := by decide +kernel
theorem kd_M_amend_64 : decode kc_M_amend 64 = .ok (.ifCond .le 5, 3) := by decide +kernel
theorem kd_M_amend_67 : decode kc_M_amend 67 = .ok (.lconst 0, 1) := by decide +kernel
theorem kd_M_amend_68 : decode kc_M_amend 68 = .ok (.lreturn, 1) := by decide +kernel
theorem kd_M_amend_69 : decode kc_M_amend 69 = .ok (.aload_n 0, 1) := by decide +kernel
theorem kd_M_amend_70 : decode kc_M_amend 70 = .ok (.getfield 129, 3) := by decide +kernel
theorem kd_M_amend_73 : decode kc_M_amend 73 = .ok (.iconst 3, 1) := by decide +kernel
theorem kd_M_amend_74 : decode kc_M_amend 74 = .ok (.iconst 4, 1) := by decide +kernel
theorem kd_M_amend_75 : decode kc_M_amend 75 = .ok (.iload_n 1, 1) := by decide +kernel
theorem kd_M_amend_76 : decode kc_M_amend 76 = .ok (.imul, 1) := by decide +kernel
theorem kd_M_amend_77 : decode kc_M_amend 77 = .ok (.iload_n 2, 1) := by decide +kernel
theorem kd_M_amend_78 : decode kc_M_amend 78 = .ok (.iadd, 1) := by decide +kernel
theorem kd_M_amend_79 : decode kc_M_amend 79 = .ok (.imul, 1) := by decide +kernel
theorem kd_M_amend_80 : decode kc_M_amend 80 = .ok (.iload_n 3, 1) := by decide +kernel
theorem kd_M_amend_81 : decode kc_M_amend 81 = .ok (.iadd, 1) := by decide +kernel
theorem kd_M_amend_82 : decode kc_M_amend 82 = .ok (.iload 4, 2) := by decide +kernel
theorem kd_M_amend_84 : decode kc_M_amend 84 = .ok (.iastore, 1) := by decide +kernel
theorem kd_M_amend_85 : decode kc_M_amend 85 = .ok (.lconst 0, 1) := by decide +kernel
theorem kd_M_amend_86 : decode kc_M_amend 86 = .ok (.lstore 5, 2) := by decide +kernel
theorem kd_M_amend_88 : decode kc_M_amend 88 = .ok (.aload_n 0, 1) := by decide +kernel
theorem kd_M_amend_89 : decode kc_M_amend 89 = .ok (.invokevirtual 283, 3) := by decide +kernel
theorem kd_M_amend_92 : decode kc_M_amend 92 = .ok (.iconst 0, 1) := by decide +kernel
theorem kd_M_amend_93 : decode kc_M_amend 93 = .ok (.istore 7, 2) := by decide +kernel
theorem kd_M_amend_95 : decode kc_M_amend 95 = .ok (.iload 7, 2) := by decide +kernel
theorem kd_M_amend_97 : decode kc_M_amend 97 = .ok (.aload_n 0, 1) := by decide +kernel
theorem kd_M_amend_98 : decode kc_M_amend 98 = .ok (.getfield 107, 3) := by decide +kernel
theorem kd_M_amend_101 : decode kc_M_amend 101 = .ok (.iload_n 1, 1) := by decide +kernel
theorem kd_M_amend_102 : decode kc_M_amend 102 = .ok (.iaload, 1) := by decide +kernel
theorem kd_M_amend_103 : decode kc_M_amend 103 = .ok (.if_icmp .ge 177, 3) := by decide +kernel
theorem kd_M_amend_106 : decode kc_M_amend 106 = .ok (.iconst 4, 1) := by decide +kernel
theorem kd_M_amend_107 : decode kc_M_amend 107 = .ok (.iload_n 1, 1) := by decide +kernel
theorem kd_M_amend_108 : decode kc_M_amend 108 = .ok (.imul, 1) := by decide +kernel
theorem kd_M_amend_109 : decode kc_M_amend 109 = .ok (.iload 7, 2) := by decide +kernel
theorem kd_M_amend_111 : decode kc_M_amend 111 = .ok (.iadd, 1) := by decide +kernel
theorem kd_M_amend_112 : decode kc_M_amend 112 = .ok (.istore 8, 2) := by decide +kernel
theorem kd_M_amend_114 : decode kc_M_amend 114 = .ok (.lload 5, 2) := by decide +kernel
theorem kd_M_amend_116 : decode kc_M_amend 116 = .ok (.aload_n 0, 1) := by decide +kernel
theorem kd_M_amend_117 : decode kc_M_amend 117 = .ok (.getfield 148, 3) := by decide +kernel
theorem kd_M_amend_120 : decode kc_M_amend 120 = .ok (.iload 8, 2) := by decide +kernel
theorem kd_M_amend_122 : decode kc_M_amend 122 = .ok (.laload, 1) := by decide +kernel
theorem kd_M_amend_123 : decode kc_M_amend 123 = .ok (.ladd, 1) := by decide +kernel
theorem kd_M_amend_124 : decode kc_M_amend 124 = .ok (.lstore 5, 2) := by decide +kernel
theorem kd_M_amend_126 : decode kc_M_amend 126 = .ok (.aload_n 0, 1) := by decide +kernel
theorem kd_M_amend_127 : decode kc_M_amend 127 = .ok (.aload_n 0, 1) := by decide +kernel
theorem kd_M_amend_128 : decode kc_M_amend 128 = .ok (.getfield 126, 3) := by decide +kernel
theorem kd_M_amend_131 : decode kc_M_amend 131 = .ok (.iload 8, 2) := by decide +kernel
theorem kd_M_amend_133 : decode kc_M_amend 133 = .ok (.baload, 1) := by decide +kernel
theorem kd_M_amend_134 : decode kc_M_amend 134 = .ok (.ifCond .eq 10, 3) := by decide +kernel
theorem kd_M_amend_137 : decode kc_M_amend 137 = .ok (.aload_n 0, 1) := by decide +kernel
theorem kd_M_amend_138 : decode kc_M_amend 138 = .ok (.getfield 312, 3) := by decide +kernel
theorem kd_M_amend_141 : decode kc_M_amend 141 = .ok (.goto 15, 3) := by decide +kernel
theorem kd_M_amend_144 : decode kc_M_amend 144 = .ok (.aload_n 0, 1) := by decide +kernel
theorem kd_M_amend_145 : decode kc_M_amend 145 = .ok (.getfield 312, 3) := by decide +kernel
theorem kd_M_amend_148 : decode kc_M_amend 148 = .ok (.aload_n 0, 1) := by decide +kernel
theorem kd_M_amend_149 : decode kc_M_amend 149 = .ok (.getfield 148, 3) := by decide +kernel
theorem kd_M_amend_152 : decode kc_M_amend 152 = .ok (.iload 8, 2) := by decide +kernel
theorem kd_M_amend_154 : decode kc_M_amend 154 = .ok (.laload, 1) := by decide +kernel
theorem kd_M_amend_155 : decode kc_M_amend 155 = .ok (.lsub, 1) := by decide +kernel
theorem kd_M_amend_156 : decode kc_M_amend 156 = .ok (.putfield 312, 3) := by decide +kernel
theorem kd_M_amend_159 : decode kc_M_amend 159 = .ok (.aload_n 0, 1) := by decide +kernel
theorem kd_M_amend_160 : decode kc_M_amend 160 = .ok (.getfield 142, 3) := by decide +kernel
theorem kd_M_amend_163 : decode kc_M_amend 163 = .ok (.iload 8, 2) := by decide +kernel
theorem kd_M_amend_165 : decode kc_M_amend 165 = .ok (.iaload, 1) := by decide +kernel
theorem kd_M_amend_166 : decode kc_M_amend 166 = .ok (.aload_n 0, 1) := by decide +kernel
theorem kd_M_amend_167 : decode kc_M_amend 167 = .ok (.getfield 154, 3) := by decide +kernel
theorem kd_M_amend_170 : decode kc_M_amend 170 = .ok (.iload 7, 2) := by decide +kernel
theorem kd_M_amend_172 : decode kc_M_amend 172 = .ok (.iaload, 1) := by decide +kernel
theorem kd_M_amend_173 : decode kc_M_amend 173 = .ok (.if_icmp .eq 7, 3) := by decide +kernel
theorem kd_M_amend_176 : decode kc_M_amend 176 = .ok (.iconst 0, 1) := by decide +kernel
theorem kd_M_amend_177 : decode kc_M_amend 177 = .ok (.goto 41, 3) := by decide +kernel
theorem kd_M_amend_180 : decode kc_M_amend 180 = .ok (.aload_n 0, 1) := by decide +kernel
theorem kd_M_amend_181 : decode kc_M_amend 181 = .ok (.getfield 145, 3) := by decide +kernel
theorem kd_M_amend_184 : decode kc_M_amend 184 = .ok (.iload 8, 2) := by decide +kernel
theorem kd_M_amend_186 : decode kc_M_amend 186 = .ok (.iaload, 1) := by decide +kernel
theorem kd_M_amend_187 : decode kc_M_amend 187 = .ok (.aload_n 0, 1) := by decide +kernel
theorem kd_M_amend_188 : decode kc_M_amend 188 = .ok (.getfield 129, 3) := by decide +kernel
theorem kd_M_amend_191 : decode kc_M_amend 191 = .ok (.iconst 3, 1) := by decide +kernel
theorem kd_M_amend_192 : decode kc_M_amend 192 = .ok (.iload 8, 2) := by decide +kernel
theorem kd_M_amend_194 : decode kc_M_amend 194 = .ok (.imul, 1) := by decide +kernel
theorem kd_M_amend_195 : decode kc_M_amend 195 = .ok (.iaload, 1) := by decide +kernel
theorem kd_M_amend_196 : decode kc_M_amend 196 = .ok (.if_icmp .ge 13, 3) := by decide +kernel
theorem kd_M_amend_199 : decode kc_M_amend 199 = .ok (.aload_n 0, 1) := by decide +kernel
theorem kd_M_amend_200 : decode kc_M_amend 200 = .ok (.getfield 145, 3) := by decide +kernel
theorem kd_M_amend_203 : decode kc_M_amend 203 = .ok (.iload 8, 2) := by decide +kernel
theorem kd_M_amend_205 : decode kc_M_amend 205 = .ok (.iaload, 1) := by decide +kernel
theorem kd_M_amend_206 : decode kc_M_amend 206 = .ok (.goto 12, 3) := by decide +kernel
theorem kd_M_amend_209 : decode kc_M_amend 209 = .ok (.aload_n 0, 1) := by decide +kernel
theorem kd_M_amend_210 : decode kc_M_amend 210 = .ok (.getfield 129, 3) := by decide +kernel
theorem kd_M_amend_213 : decode kc_M_amend 213 = .ok (.iconst 3, 1) := by decide +kernel
theorem kd_M_amend_214 : decode kc_M_amend 214 = .ok (.iload 8, 2) := by decide +kernel
theorem kd_M_amend_216 : decode kc_M_amend 216 = .ok (.imul, 1) := by decide +kernel
theorem kd_M_amend_217 : decode kc_M_amend 217 = .ok (.iaload, 1) := by decide +kernel
theorem kd_M_amend_218 : decode kc_M_amend 218 = .ok (.istore 9, 2) := by decide +kernel
theorem kd_M_amend_220 : decode kc_M_amend 220 = .ok (.aload_n 0, 1) := by decide +kernel
theorem kd_M_amend_221 : decode kc_M_amend 221 = .ok (.getfield 142, 3) := by decide +kernel
theorem kd_M_amend_224 : decode kc_M_amend 224 = .ok (.iload 8, 2) := by decide +kernel
theorem kd_M_amend_226 : decode kc_M_amend 226 = .ok (.iaload, 1) := by decide +kernel
theorem kd_M_amend_227 : decode kc_M_amend 227 = .ok (.ifCond .lt 38, 3) := by decide +kernel
theorem kd_M_amend_230 : decode kc_M_amend 230 = .ok (.aload_n 0, 1) := by decide +kernel
theorem kd_M_amend_231 : decode kc_M_amend 231 = .ok (.getfield 70, 3) := by decide +kernel
theorem kd_M_amend_234 : decode kc_M_amend 234 = .ok (.aload_n 0, 1) := by decide +kernel
theorem kd_M_amend_235 : decode kc_M_amend 235 = .ok (.getfield 142, 3) := by decide +kernel
theorem kd_M_amend_238 : decode kc_M_amend 238 = .ok (.iload 8, 2) := by decide +kernel
theorem kd_M_amend_240 : decode kc_M_amend 240 = .ok (.iaload, 1) := by decide +kernel
theorem kd_M_amend_241 : decode kc_M_amend 241 = .ok (.aload_n 0, 1) := by decide +kernel
theorem kd_M_amend_242 : decode kc_M_amend 242 = .ok (.getfield 70, 3) := by decide +kernel
theorem kd_M_amend_245 : decode kc_M_amend 245 = .ok (.aload_n 0, 1) := by decide +kernel
theorem kd_M_amend_246 : decode kc_M_amend 246 = .ok (.getfield 142, 3) := by decide +kernel
theorem kd_M_amend_249 : decode kc_M_amend 249 = .ok (.iload 8, 2) := by decide +kernel
theorem kd_M_amend_251 : decode kc_M_amend 251 = .ok (.iaload, 1) := by decide +kernel
theorem kd_M_amend_252 : decode kc_M_amend 252 = .ok (.iaload, 1) := by decide +kernel
theorem kd_M_amend_253 : decode kc_M_amend 253 = .ok (.aload_n 0, 1) := by decide +kernel
theorem kd_M_amend_254 : decode kc_M_amend 254 = .ok (.getfield 145, 3) := by decide +kernel
theorem kd_M_amend_257 : decode kc_M_amend 257 = .ok (.iload 8, 2) := by decide +kernel
theorem kd_M_amend_259 : decode kc_M_amend 259 = .ok (.iaload, 1) := by decide +kernel
theorem kd_M_amend_260 : decode kc_M_amend 260 = .ok (.iadd, 1) := by decide +kernel
theorem kd_M_amend_261 : decode kc_M_amend 261 = .ok (.iload 9, 2) := by decide +kernel
theorem kd_M_amend_263 : decode kc_M_amend 263 = .ok (.isub, 1) := by decide +kernel
theorem kd_M_amend_264 : decode kc_M_amend 264 = .ok (.iastore, 1) := by decide +kernel
theorem kd_M_amend_265 : decode kc_M_amend 265 = .ok (.aload_n 0, 1) := by decide +kernel
theorem kd_M_amend_266 : decode kc_M_amend 266 = .ok (.getfield 157, 3) := by decide +kernel
theorem kd_M_amend_269 : decode kc_M_amend 269 = .ok (.iload 7, 2) := by decide +kernel
theorem kd_M_amend_271 : decode kc_M_amend 271 = .ok (.iload 9, 2) := by decide +kernel
theorem kd_M_amend_273 : decode kc_M_amend 273 = .ok (.iastore, 1) := by decide +kernel
theorem kd_M_amend_274 : decode kc_M_amend 274 = .ok (.iinc 7 1, 3) := by decide +kernel
theorem kd_M_amend_277 : decode kc_M_amend 277 = .ok (.goto (-182), 3) := by decide +kernel
theorem kd_M_amend_280 : decode kc_M_amend 280 = .ok (.aload_n 0, 1) := by decide +kernel
theorem kd_M_amend_281 : decode kc_M_amend 281 = .ok (.iload_n 1, 1) := by decide +kernel
theorem kd_M_amend_282 : decode kc_M_amend 282 = .ok (.invokevirtual 286, 3) := by decide +kernel
theorem kd_M_amend_285 : decode kc_M_amend 285 = .ok (.lstore 7, 2) := by decide +kernel
theorem kd_M_amend_287 : decode kc_M_amend 287 = .ok (.aload_n 0, 1) := by decide +kernel
theorem kd_M_amend_288 : decode kc_M_amend 288 = .ok (.iload_n 1, 1) := by decide +kernel
theorem kd_M_amend_289 : decode kc_M_amend 289 = .ok (.invokevirtual 305, 3) := by decide +kernel
theorem kd_M_amend_292 : decode kc_M_amend 292 = .ok (.iconst 4, 1) := by decide +kernel
theorem kd_M_amend_293 : decode kc_M_amend 293 = .ok (.iload_n 1, 1) := by decide +kernel
theorem kd_M_amend_294 : decode kc_M_amend 294 = .ok (.imul, 1) := by decide +kernel
theorem kd_M_amend_295 : decode kc_M_amend 295 = .ok (.istore 9, 2) := by decide +kernel
theorem kd_M_amend_297 : decode kc_M_amend 297 = .ok (.iload 9, 2) := by decide +kernel
theorem kd_M_amend_299 : decode kc_M_amend 299 = .ok (.iconst 4, 1) := by decide +kernel
theorem kd_M_amend_300 : decode kc_M_amend 300 = .ok (.iload_n 1, 1) := by decide +kernel
theorem kd_M_amend_301 : decode kc_M_amend 301 = .ok (.imul, 1) := by decide +kernel
theorem kd_M_amend_302 : decode kc_M_amend 302 = .ok (.aload_n 0, 1) := by decide +kernel
theorem kd_M_amend_303 : decode kc_M_amend 303 = .ok (.getfield 107, 3) := by decide +kernel
theorem kd_M_amend_306 : decode kc_M_amend 306 = .ok (.iload_n 1, 1) := by decide +kernel
theorem kd_M_amend_307 : decode kc_M_amend 307 = .ok (.iaload, 1) := by decide +kernel
theorem kd_M_amend_308 : decode kc_M_amend 308 = .ok (.iadd, 1) := by decide +kernel
theorem kd_M_amend_309 : decode kc_M_amend 309 = .ok (.if_icmp .ge 82, 3) := by decide +kernel
theorem kd_M_amend_312 : decode kc_M_amend 312 = .ok (.aload_n 0, 1) := by decide +kernel
theorem kd_M_amend_313 : decode kc_M_amend 313 = .ok (.getfield 166, 3) := by decide +kernel
theorem kd_M_amend_316 : decode kc_M_amend 316 = .ok (.aload_n 0, 1) := by decide +kernel
theorem kd_M_amend_317 : decode kc_M_amend 317 = .ok (.getfield 139, 3) := by decide +kernel
theorem kd_M_amend_320 : decode kc_M_amend 320 = .ok (.iload 9, 2) := by decide +kernel
theorem kd_M_amend_322 : decode kc_M_amend 322 = .ok (.iaload, 1) := by decide +kernel
theorem kd_M_amend_323 : decode kc_M_amend 323 = .ok (.aload_n 0, 1) := by decide +kernel
theorem kd_M_amend_324 : decode kc_M_amend 324 = .ok (.getfield 129, 3) := by decide +kernel
theorem kd_M_amend_327 : decode kc_M_amend 327 = .ok (.iconst 3, 1) := by decide +kernel
theorem kd_M_amend_328 : decode kc_M_amend 328 = .ok (.iload 9, 2) := by decide +kernel
theorem kd_M_amend_330 : decode kc_M_amend 330 = .ok (.imul, 1) := by decide +kernel
theorem kd_M_amend_331 : decode kc_M_amend 331 = .ok (.iaload, 1) := by decide +kernel
theorem kd_M_amend_332 : decode kc_M_amend 332 = .ok (.iastore, 1) := by decide +kernel
theorem kd_M_amend_333 : decode kc_M_amend 333 = .ok (.aload_n 0, 1) := by decide +kernel
theorem kd_M_amend_334 : decode kc_M_amend 334 = .ok (.getfield 172, 3) := by decide +kernel
theorem kd_M_amend_337 : decode kc_M_amend 337 = .ok (.aload_n 0, 1) := by decide +kernel
theorem kd_M_amend_338 : decode kc_M_amend 338 = .ok (.getfield 139, 3) := by decide +kernel
theorem kd_M_amend_341 : decode kc_M_amend 341 = .ok (.iload 9, 2) := by decide +kernel
theorem kd_M_amend_343 : decode kc_M_amend 343 = .ok (.iaload, 1) := by decide +kernel
theorem kd_M_amend_344 : decode kc_M_amend 344 = .ok (.aload_n 0, 1) := by decide +kernel
theorem kd_M_amend_345 : decode kc_M_amend 345 = .ok (.getfield 148, 3) := by decide +kernel
theorem kd_M_amend_348 : decode kc_M_amend 348 = .ok (.iload 9, 2) := by decide +kernel
theorem kd_M_amend_350 : decode kc_M_amend 350 = .ok (.laload, 1) := by decide +kernel
theorem kd_M_amend_351 : decode kc_M_amend 351 = .ok (.lastore, 1) := by decide +kernel
theorem kd_M_amend_352 : decode kc_M_amend 352 = .ok (.aload_n 0, 1) := by decide +kernel
theorem kd_M_amend_353 : decode kc_M_amend 353 = .ok (.aload_n 0, 1) := by decide +kernel
theorem kd_M_amend_354 : decode kc_M_amend 354 = .ok (.getfield 126, 3) := by decide +kernel
theorem kd_M_amend_357 : decode kc_M_amend 357 = .ok (.iload 9, 2) := by decide +kernel
theorem kd_M_amend_359 : decode kc_M_amend 359 = .ok (.baload, 1) := by decide +kernel
theorem kd_M_amend_360 : decode kc_M_amend 360 = .ok (.ifCond .eq 10, 3) := by decide +kernel
theorem kd_M_amend_363 : decode kc_M_amend 363 = .ok (.aload_n 0, 1) := by decide +kernel
theorem kd_M_amend_364 : decode kc_M_amend 364 = .ok (.getfield 312, 3) := by decide +kernel
theorem kd_M_amend_367 : decode kc_M_amend 367 = .ok (.goto 15, 3) := by decide +kernel
theorem kd_M_amend_370 : decode kc_M_amend 370 = .ok (.aload_n 0, 1) := by decide +kernel
theorem kd_M_amend_371 : decode kc_M_amend 371 = .ok (.getfield 312, 3) := by decide +kernel
theorem kd_M_amend_374 : decode kc_M_amend 374 = .ok (.aload_n 0, 1) := by decide +kernel
theorem kd_M_amend_375 : decode kc_M_amend 375 = .ok (.getfield 148, 3) := by decide +kernel
theorem kd_M_amend_378 : decode kc_M_amend 378 = .ok (.iload 9, 2) := by decide +kernel
theorem kd_M_amend_380 : decode kc_M_amend 380 = .ok (.laload, 1) := by decide +kernel
theorem kd_M_amend_381 : decode kc_M_amend 381 = .ok (.ladd, 1) := by decide +kernel
theorem kd_M_amend_382 : decode kc_M_amend 382 = .ok (.putfield 312, 3) := by decide +kernel
theorem kd_M_amend_385 : decode kc_M_amend 385 = .ok (.iinc 9 1, 3) := by decide +kernel
theorem kd_M_amend_388 : decode kc_M_amend 388 = .ok (.goto (-91), 3) := by decide +kernel
theorem kd_M_amend_391 : decode kc_M_amend 391 = .ok (.lload 7, 2) := by decide +kernel
theorem kd_M_amend_393 : decode kc_M_amend 393 = .ok (.lload 5, 2) := by decide +kernel
theorem kd_M_amend_395 : decode kc_M_amend 395 = .ok (.lsub, 1) := by decide +kernel
theorem kd_M_amend_396 : decode kc_M_amend 396 = .ok (.lreturn, 1) := by decide +kernel
theorem kd_M_left_0 : decode kc_M_left 0 = .ok (.iconst 0, 1) := by decide +kernel
theorem kd_M_left_1 : decode kc_M_left 1 = .ok (.istore_n 3, 1) := by decide +kernel
theorem kd_M_left_2 : decode kc_M_left 2 = .ok (.iconst 0, 1) := by decide +kernel
theorem kd_M_left_3 : decode kc_M_left 3 = .ok (.istore 4, 2) := by decide +kernel
theorem kd_M_left_5 : decode kc_M_left 5 = .ok (.iload 4, 2) := by decide +kernel
theorem kd_M_left_7 : decode kc_M_left 7 = .ok (.aload_n 0, 1) := by decide +kernel
theorem kd_M_left_8 : decode kc_M_left 8 = .ok (.getfield 299, 3) := by decide +kernel
theorem kd_M_left_11 : decode kc_M_left 11 = .ok (.if_icmp .ge 53, 3) := by decide +kernel
theorem kd_M_left_14 : decode kc_M_left 14 = .ok (.aload_n 0, 1) := by decide +kernel
theorem kd_M_left_15 : decode kc_M_left 15 = .ok (.getfield 163, 3) := by decide +kernel
theorem kd_M_left_18 : decode kc_M_left 18 = .ok (.iload 4, 2) := by decide +kernel
theorem kd_M_left_20 : decode kc_M_left 20 = .ok (.iaload, 1) := by decide +kernel
