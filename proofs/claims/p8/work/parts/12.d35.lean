theorem kd_M_amend_123 : decode kc_M_amend 123 = .ok (.ladd, 1) := by decide +kernel
theorem kd_M_amend_124 : decode kc_M_amend 124 = .ok (.lstore 5, 2) := by decide +kernel
theorem kd_M_amend_126 : decode kc_M_amend 126 = .ok (.aload_n 0, 1) := by decide +kernel
theorem kd_M_amend_127 : decode kc_M_amend 127 = .ok (.aload_n 0, 1) := by decide +kernel
theorem kd_M_amend_128 : decode kc_M_amend 128 = .ok (.getfield 126, 3) := by decide +kernel
theorem kd_M_amend_131 : decode kc_M_amend 131 = .ok (.iload 8, 2) := by decide +kernel
theorem kd_M_amend_133 : decode kc_M_amend 133 = .ok (.baload, 1) := by decide +kernel
theorem kd_M_amend_134 : decode kc_M_amend 134 = .ok (.ifCond .eq 10, 3) := by decide +kernel
theorem kd_M_amend_137 : decode kc_M_amend 137 = .ok (.aload_n 0, 1) := by decide +kernel
theorem kd_M_amend_138 : decode kc_M_amend 138 = .ok (.getfield 312, 3) := by decide +kernel
theorem kd_M_amend_141 : decode kc_M_amend 141 = .ok (.goto 15, 3) := by decide +kernel
theorem kd_M_amend_144 : decode kc_M_amend 144 = .ok (.aload_n 0, 1) := by decide +kernel
theorem kd_M_amend_145 : decode kc_M_amend 145 = .ok (.getfield 312, 3) := by decide +kernel
theorem kd_M_amend_148 : decode kc_M_amend 148 = .ok (.aload_n 0, 1) := by decide +kernel
theorem kd_M_amend_149 : decode kc_M_amend 149 = .ok (.getfield 148, 3) := by decide +kernel
theorem kd_M_amend_152 : decode kc_M_amend 152 = .ok (.iload 8, 2) := by decide +kernel
theorem kd_M_amend_154 : decode kc_M_amend 154 = .ok (.laload, 1) := by decide +kernel
theorem kd_M_amend_155 : decode kc_M_amend 155 = .ok (.lsub, 1) := by decide +kernel
theorem kd_M_amend_156 : decode kc_M_amend 156 = .ok (.putfield 312, 3) := by decide +kernel
theorem kd_M_amend_159 : decode kc_M_amend 159 = .ok (.aload_n 0, 1) := by decide +kernel
theorem kd_M_amend_160 : decode kc_M_amend 160 = .ok (.getfield 142, 3) := by decide +kernel
theorem kd_M_amend_163 : decode kc_M_amend 163 = .ok (.iload 8, 2) := by decide +kernel
theorem kd_M_amend_165 : decode kc_M_amend 165 = .ok (.iaload, 1) := by decide +kernel
theorem kd_M_amend_166 : decode kc_M_amend 166 = .ok (.aload_n 0, 1) := by decide +kernel
theorem kd_M_amend_167 : decode kc_M_amend 167 = .ok (.getfield 154, 3) := by decide +kernel
theorem kd_M_amend_170 : decode kc_M_amend 170 = .ok (.iload 7, 2) := by decide +kernel
theorem kd_M_amend_172 : decode kc_M_amend 172 = .ok (.iaload, 1) := by decide +kernel
theorem kd_M_amend_173 : decode kc_M_amend 173 = .ok (.if_icmp .eq 7, 3) := by decide +kernel
theorem kd_M_amend_176 : decode kc_M_amend 176 = .ok (.iconst 0, 1) := by decide +kernel
theorem kd_M_amend_177 : decode kc_M_amend 177 = .ok (.goto 41, 3) := by decide +kernel
theorem kd_M_amend_180 : decode kc_M_amend 180 = .ok (.aload_n 0, 1) := by decide +kernel
theorem kd_M_amend_181 : decode kc_M_amend 181 = .ok (.getfield 145, 3) := by decide +kernel
theorem kd_M_amend_184 : decode kc_M_amend 184 = .ok (.iload 8, 2) := by decide +kernel
theorem kd_M_amend_186 : decode kc_M_amend 186 = .ok (.iaload, 1) := by decide +kernel
theorem kd_M_amend_187 : decode kc_M_amend 187 = .ok (.aload_n 0, 1) := by decide +kernel
theorem kd_M_amend_188 : decode kc_M_amend 188 = .ok (.getfield 129, 3) := by decide +kernel
theorem kd_M_amend_191 : decode kc_M_amend 191 = .ok (.iconst 3, 1) := by decide +kernel
theorem kd_M_amend_192 : decode kc_M_amend 192 = .ok (.iload 8, 2) := by decide +kernel
theorem kd_M_amend_194 : decode kc_M_amend 194 = .ok (.imul, 1) := by decide +kernel
theorem kd_M_amend_195 : decode kc_M_amend 195 = .ok (.iaload, 1) := by decide +kernel
theorem kd_M_amend_196 : decode kc_M_amend 196 = .ok (.if_icmp .ge 13, 3) := by decide +kernel
theorem kd_M_amend_199 : decode kc_M_amend 199 = .ok (.aload_n 0, 1) := by decide +kernel
theorem kd_M_amend_200 : decode kc_M_amend 200 = .ok (.getfield 145, 3) := by decide +kernel
theorem kd_M_amend_203 : decode kc_M_amend 203 = .ok (.iload 8, 2) := by decide +kernel
theorem kd_M_amend_205 : decode kc_M_amend 205 = .ok (.iaload, 1) := by decide +kernel
theorem kd_M_amend_206 : decode kc_M_amend 206 = .ok (.goto 12, 3) := by decide +kernel
theorem kd_M_amend_209 : decode kc_M_amend 209 = .ok (.aload_n 0, 1) := by decide +kernel
theorem kd_M_amend_210 : decode kc_M_amend 210 = .ok (.getfield 129, 3) := by decide +kernel
theorem kd_M_amend_213 : decode kc_M_amend 213 = .ok (.iconst 3, 1) := by decide +kernel
theorem kd_M_amend_214 : decode kc_M_amend 214 = .ok (.iload 8, 2) := by decide +kernel
theorem kd_M_amend_216 : decode kc_M_amend 216 = .ok (.imul, 1) := by decide +kernel
theorem kd_M_amend_217 : decode kc_M_amend 217 = .ok (.iaload, 1) := by decide +kernel
theorem kd_M_amend_218 : decode kc_M_amend 218 = .ok (.istore 9, 2) := by decide +kernel
theorem kd_M_amend_220 : decode kc_M_amend 220 = .ok (.aload_n 0, 1) := by decide +kernel
theorem kd_M_amend_221 : decode kc_M_amend 221 = .ok (.getfield 142, 3) := by decide +kernel
theorem kd_M_amend_224 : decode kc_M_amend 224 = .ok (.iload 8, 2) := by decide +kernel
theorem kd_M_amend_226 : decode kc_M_amend 226 = .ok (.iaload, 1) := by decide +kernel
theorem kd_M_amend_227 : decode kc_M_amend 227 = .ok (.ifCond .lt 38, 3) := by decide +kernel
theorem kd_M_amend_230 : decode kc_M_amend 230 = .ok (.aload_n 0, 1) := by decide +kernel
theorem kd_M_amend_231 : decode kc_M_amend 231 = .ok (.getfield 70, 3) := by decide +kernel
theorem kd_M_amend_234 : decode kc_M_amend 234 = .ok (.aload_n 0, 1) := by decide +kernel
theorem kd_M_amend_235 : decode kc_M_amend 235 = .ok (.getfield 142, 3) := by decide +kernel
theorem kd_M_amend_238 : decode kc_M_amend 238 = .ok (.iload 8, 2) := by decide +kernel
theorem kd_M_amend_240 : decode kc_M_amend 240 = .ok (.iaload, 1) := by decide +kernel
theorem kd_M_amend_241 : decode kc_M_amend 241 = .ok (.aload_n 0, 1) := by decide +kernel
theorem kd_M_amend_242 : decode kc_M_amend 242 = .ok (.getfield 70, 3) := by decide +kernel
theorem kd_M_amend_245 : decode kc_M_amend 245 = .ok (.aload_n 0, 1) := by decide +kernel
theorem kd_M_amend_246 : decode kc_M_amend 246 = .ok (.getfield 142, 3) := by decide +kernel
theorem kd_M_amend_249 : decode kc_M_amend 249 = .ok (.iload 8, 2) := by decide +kernel
theorem kd_M_amend_251 : decode kc_M_amend 251 = .ok (.iaload, 1) := by decide +kernel
theorem kd_M_amend_252 : decode kc_M_amend 252 = .ok (.iaload, 1) := by decide +kernel
theorem kd_M_amend_253 : decode kc_M_amend 253 = .ok (.aload_n 0, 1) := by decide +kernel
theorem kd_M_amend_254 : decode kc_M_amend 254 = .ok (.getfield 145, 3) := by decide +kernel
theorem kd_M_amend_257 : decode kc_M_amend 257 = .ok (.iload 8, 2) := by decide +kernel
theorem kd_M_amend_259 : decode kc_M_amend 259 = .ok (.iaload, 1) := by decide +kernel
theorem kd_M_amend_260 : decode kc_M_amend 260 = .ok (.iadd, 1) := by decide +kernel
theorem kd_M_amend_261 : decode kc_M_amend 261 = .ok (.iload 9, 2) := by decide +kernel
theorem kd_M_amend_263 : decode kc_M_amend 263 = .ok (.isub, 1) := by decide +kernel
theorem kd_M_amend_264 : decode kc_M_amend 264 = .ok (.iastore, 1) := by decide +kernel
theorem kd_M_amend_265 : decode kc_M_amend 265 = .ok (.aload_n 0, 1) := by decide +kernel
theorem kd_M_amend_266 : decode kc_M_amend 266 = .ok (.getfield 157, 3) := by decide +kernel
theorem kd_M_amend_269 : decode kc_M_amend 269 = .ok (.iload 7, 2) := by decide +kernel
theorem kd_M_amend_271 : decode kc_M_amend 271 = .ok (.iload 9, 2) := by decide +kernel
theorem kd_M_amend_273 : decode kc_M_amend 273 = .ok (.iastore, 1) := by decide +kernel
theorem kd_M_amend_274 : decode kc_M_amend 274 = .ok (.iinc 7 1, 3) := by decide +kernel
theorem kd_M_amend_277 : decode kc_M_amend 277 = .ok (.goto (-182), 3) := by decide +kernel
theorem kd_M_amend_280 : decode kc_M_amend 280 = .ok (.aload_n 0, 1) := by decide +kernel
theorem kd_M_amend_281 : decode kc_M_amend 281 = .ok (.iload_n 1, 1) := by decide +kernel
theorem kd_M_amend_282 : decode kc_M_amend 282 = .ok (.invokevirtual 286, 3) := by decide +kernel
theorem kd_M_amend_285 : decode kc_M_amend 285 = .ok (.lstore 7, 2) := by decide +kernel
theorem kd_M_amend_287 : decode kc_M_amend 287 = .ok (.aload_n 0, 1) := by decide +kernel
theorem kd_M_amend_288 : decode kc_M_amend 288 = .ok (.iload_n 1, 1) := by decide +kernel
theorem kd_M_amend_289 : decode kc_M_amend 289 = .ok (.invokevirtual 305, 3) := by decide +kernel
theorem kd_M_amend_292 : decode kc_M_amend 292 = .ok (.iconst 4, 1) := by decide +kernel
theorem kd_M_amend_293 : decode kc_M_amend 293 = .ok (.iload_n 1, 1) := by decide +kernel
theorem kd_M_amend_294 : decode kc_M_amend 294 = .ok (.imul, 1) := by decide +kernel
theorem kd_M_amend_295 : decode kc_M_amend 295 = .ok (.istore 9, 2) := by decide +kernel
theorem kd_M_amend_297 : decode kc_M_amend 297 = .ok (.iload 9, 2) := by decide +kernel
theorem kd_M_amend_299 : decode kc_M_amend 299 = .ok (.iconst 4, 1) := by decide +kernel
theorem kd_M_amend_300 : decode kc_M_amend 300 = .ok (.iload_n 1, 1) := by decide +kernel
theorem kd_M_amend_301 : decode kc_M_amend 301 = .ok (.imul, 1) := by decide +kernel
theorem kd_M_amend_302 : decode kc_M_amend 302 = .ok (.aload_n 0, 1) := by decide +kernel
theorem kd_M_amend_303 : decode kc_M_amend 303 = .ok (.getfield 107, 3) := by decide +kernel
theorem kd_M_amend_306 : decode kc_M_amend 306 = .ok (.iload_n 1, 1) := by decide +kernel
theorem kd_M_amend_307 : decode kc_M_amend 307 = .ok (.iaload, 1) := by decide +kernel
theorem kd_M_amend_308 : decode kc_M_amend 308 = .ok (.iadd, 1) := by decide +kernel
theorem kd_M_amend_309 : decode kc_M_amend 309 = .ok (.if_icmp .ge 82, 3) := by decide +kernel
theorem kd_M_amend_312 : decode kc_M_amend 312 = .ok (.aload_n 0, 1) := by decide +kernel
theorem kd_M_amend_313 : decode kc_M_amend 313 = .ok (.getfield 166, 3) := by decide +kernel
theorem kd_M_amend_316 : decode kc_M_amend 316 = .ok (.aload_n 0, 1) := by decide +kernel
theorem kd_M_amend_317 : decode kc_M_amend 317 = .ok (.getfield 139, 3) := by decide +kernel
theorem kd_M_amend_320 : decode kc_M_amend 320 = .ok (.iload 9, 2) := by decide +kernel
theorem kd_M_amend_322 : decode kc_M_amend 322 = .ok (.iaload, 1) := by decide +kernel
theorem kd_M_amend_323 : decode kc_M_amend 323 = .ok (.aload_n 0, 1) := by decide +kernel
theorem kd_M_amend_324 : decode kc_M_amend 324 = .ok (.getfield 129, 3) := by decide +kernel
theorem kd_M_amend_327 : decode kc_M_amend 327 = .ok (.iconst 3, 1) := by decide +kernel
theorem kd_M_amend_328 : decode kc_M_amend 328 = .ok (.iload 9, 2) := by decide +kernel
theorem kd_M_amend_330 : decode kc_M_amend 330 = .ok (.imul, 1) := by decide +kernel
theorem kd_M_amend_331 : decode kc_M_amend 331 = .ok (.iaload, 1) := by decide +kernel
theorem kd_M_amend_332 : decode kc_M_amend 332 = .ok (.iastore, 1) := by decide +kernel
theorem kd_M_amend_333 : decode kc_M_amend 333 = .ok (.aload_n 0, 1) := by decide +kernel
theorem kd_M_amend_334 : decode kc_M_amend 334 = .ok (.getfield 172, 3) := by decide +kernel
theorem kd_M_amend_337 : decode kc_M_amend 337 = .ok (.aload_n 0, 1) := by decide +kernel
theorem kd_M_amend_338 : decode kc_M_amend 338 = .ok (.getfield 139, 3) := by decide +kernel
theorem kd_M_amend_341 : decode kc_M_amend 341 = .ok (.iload 9, 2) := by decide +kernel
theorem kd_M_amend_343 : decode kc_M_amend 343 = .ok (.iaload, 1) := by decide +kernel
theorem kd_M_amend_344 : decode kc_M_amend 344 = .ok (.aload_n 0, 1) := by decide +kernel
theorem kd_M_amend_345 : decode kc_M_amend 345 = .ok (.getfield 148, 3) := by decide +kernel
theorem kd_M_amend_348 : decode kc_M_amend 348 = .ok (.iload 9, 2) := by decide +kernel
theorem kd_M_amend_350 : decode kc_M_amend 350 = .ok (.laload, 1) := by decide +kernel
theorem kd_M_amend_351 : decode kc_M_amend 351 = .ok (.lastore, 1) := by decide +kernel
theorem kd_M_amend_352 : decode kc_M_amend 352 = .ok (.aload_n 0, 1) := by decide +kernel
theorem kd_M_amend_353 : decode kc_M_amend 353 = .ok (.aload_n 0, 1) := by decide +kernel
theorem kd_M_amend_354 : decode kc_M_amend 354 = .ok (.getfield 126, 3) := by decide +kernel
theorem kd_M_amend_357 : decode kc_M_amend 357 = .ok (.iload 9, 2) := by decide +kernel
theorem kd_M_amend_359 : decode kc_M_amend 359 = .ok (.baload, 1) := by decide +kernel
theorem kd_M_amend_360 : decode kc_M_amend 360 = .ok (.ifCond .eq 10, 3) := by decide +kernel
theorem kd_M_amend_363 : decode kc_M_amend 363 = .ok (.aload_n 0, 1) := by decide +kernel
theorem kd_M_amend_364 : decode kc_M_amend 364 = .ok (.getfield 312, 3) := by decide +kernel
theorem kd_M_amend_367 : decode kc_M_amend 367 = .ok (.goto 15, 3) := by decide +kernel
theorem kd_M_amend_370 : decode kc_M_amend 370 = .ok (.aload_n 0, 1) := by decide +kernel
theorem kd_M_amend_371 : decode kc_M_amend 371 = .ok (.getfield 312, 3) := by decide +kernel
theorem kd_M_amend_374 : decode kc_M_amend 374 = .ok (.aload_n 0, 1) := by decide +kernel
theorem kd_M_amend_375 : decode kc_M_amend 375 = .ok (.getfield 148, 3) := by decide +kernel
theorem kd_M_amend_378 : decode kc_M_amend 378 = .ok (.iload 9, 2) := by decide +kernel
theorem kd_M_amend_380 : decode kc_M_amend 380 = .ok (.laload, 1) := by decide +kernel
theorem kd_M_amend_381 : decode kc_M_amend 381 = .ok (.ladd, 1) := by decide +kernel
theorem kd_M_amend_382 : decode kc_M_amend 382 = .ok (.putfield 312, 3) := by decide +kernel
theorem kd_M_amend_385 : decode kc_M_amend 385 = .ok (.iinc 9 1, 3) := by decide +kernel
theorem kd_M_amend_388 : decode kc_M_amend 388 = .ok (.goto (-91), 3) := by decide +kernel
theorem kd_M_amend_391 : decode kc_M_amend 391 = .ok (.lload 7, 2) := by decide +kernel
theorem kd_M_amend_393 : decode kc_M_amend 393 = .ok (.lload 5, 2) := by decide +kernel
theorem kd_M_amend_395 : decode kc_M_amend 395 = .ok (.lsub, 1) := by decide +kernel
theorem kd_M_amend_396 : decode kc_M_amend 396 = .ok (.lreturn, 1) := by decide +kernel
theorem kd_M_left_0 : decode kc_M_left 0 = .ok (.iconst 0, 1) := by decide +kernel
theorem kd_M_left_1 : decode kc_M_left 1 = .ok (.istore_n 3, 1) := by decide +kernel
theorem kd_M_left_2 : decode kc_M_left 2 = .ok (.iconst 0, 1) := by decide +kernel
theorem kd_M_left_3 : decode kc_M_left 3 = .ok (.istore 4, 2) := by decide +kernel
theorem kd_M_left_5 : decode kc_M_left 5 = .ok (.iload 4, 2) := by decide +kernel
theorem kd_M_left_7 : decode kc_M_left 7 = .ok (.aload_n 0, 1) := by decide +kernel
theorem kd_M_left_8 : decode kc_M_left 8 = .ok (.getfield 299, 3) := by decide +kernel
theorem kd_M_left_11 : decode kc_M_left 11 = .ok (.if_icmp .ge 53, 3) := by decide +kernel
theorem kd_M_left_14 : decode kc_M_left 14 = .ok (.aload_n 0, 1) := by decide +kernel
theorem kd_M_left_15 : decode kc_M_left 15 = .ok (.getfield 163, 3) := by decide +kernel
theorem kd_M_left_18 : decode kc_M_left 18 = .ok (.iload 4, 2) := by decide +kernel
theorem kd_M_left_20 : decode kc_M_left 20 = .ok (.iaload, 1) := by decide +kernel
theorem kd_M_left_21 : decode kc_M_left 21 = .ok (.iload_n 1, 1) := by decide +kernel
theorem kd_M_left_22 : decode kc_M_left 22 = .ok (.if_icmp .ne 34, 3) := by decide +kernel
theorem kd_M_left_25 : decode kc_M_left 25 = .ok (.aload_n 0, 1) := by decide +kernel
theorem kd_M_left_26 : decode kc_M_left 26 = .ok (.getfield 175, 3) := by decide +kernel
theorem kd_M_left_29 : decode kc_M_left 29 = .ok (.iload 4, 2) := by decide +kernel
theorem kd_M_left_31 : decode kc_M_left 31 = .ok (.baload, 1) := by decide +kernel
theorem kd_M_left_32 : decode kc_M_left 32 = .ok (.iload_n 2, 1) := by decide +kernel
theorem kd_M_left_33 : decode kc_M_left 33 = .ok (.if_icmp .ne 23, 3) := by decide +kernel
theorem kd_M_left_36 : decode kc_M_left 36 = .ok (.iload_n 3, 1) := by decide +kernel
theorem kd_M_left_37 : decode kc_M_left 37 = .ok (.aload_n 0, 1) := by decide +kernel
theorem kd_M_left_38 : decode kc_M_left 38 = .ok (.getfield 166, 3) := by decide +kernel
theorem kd_M_left_41 : decode kc_M_left 41 = .ok (.iload 4, 2) := by decide +kernel
theorem kd_M_left_43 : decode kc_M_left 43 = .ok (.iaload, 1) := by decide +kernel
theorem kd_M_left_44 : decode kc_M_left 44 = .ok (.iadd, 1) := by decide +kernel
theorem kd_M_left_45 : decode kc_M_left 45 = .ok (.aload_n 0, 1) := by decide +kernel
theorem kd_M_left_46 : decode kc_M_left 46 = .ok (.getfield 169, 3) := by decide +kernel
theorem kd_M_left_49 : decode kc_M_left 49 = .ok (.iload 4, 2) := by decide +kernel
theorem kd_M_left_51 : decode kc_M_left 51 = .ok (.iaload, 1) := by decide +kernel
theorem kd_M_left_52 : decode kc_M_left 52 = .ok (.isub, 1) := by decide +kernel
theorem kd_M_left_53 : decode kc_M_left 53 = .ok (.goto 4, 3) := by decide +kernel
theorem kd_M_left_56 : decode kc_M_left 56 = .ok (.iload_n 3, 1) := by decide +kernel
theorem kd_M_left_57 : decode kc_M_left 57 = .ok (.istore_n 3, 1) := by decide +kernel
theorem kd_M_left_58 : decode kc_M_left 58 = .ok (.iinc 4 1, 3) := by decide +kernel
theorem kd_M_left_61 : decode kc_M_left 61 = .ok (.goto (-56), 3) := by decide +kernel
theorem kd_M_left_64 : decode kc_M_left 64 = .ok (.iload_n 3, 1) := by decide +kernel
theorem kd_M_left_65 : decode kc_M_left 65 = .ok (.ireturn, 1) := by decide +kernel
theorem kd_M_take_0 : decode kc_M_take 0 = .ok (.lconst 0, 1) := by decide +kernel
theorem kd_M_take_1 : decode kc_M_take 1 = .ok (.lstore 4, 2) := by decide +kernel
theorem kd_M_take_3 : decode kc_M_take 3 = .ok (.iload_n 2, 1) := by decide +kernel
theorem kd_M_take_4 : decode kc_M_take 4 = .ok (.istore 6, 2) := by decide +kernel
theorem kd_M_take_6 : decode kc_M_take 6 = .ok (.iconst 0, 1) := by decide +kernel
theorem kd_M_take_7 : decode kc_M_take 7 = .ok (.istore 7, 2) := by decide +kernel
theorem kd_M_take_9 : decode kc_M_take 9 = .ok (.iload 7, 2) := by decide +kernel
theorem kd_M_take_11 : decode kc_M_take 11 = .ok (.aload_n 0, 1) := by decide +kernel
theorem kd_M_take_12 : decode kc_M_take 12 = .ok (.getfield 299, 3) := by decide +kernel
theorem kd_M_take_15 : decode kc_M_take 15 = .ok (.if_icmp .ge 130, 3) := by decide +kernel
theorem kd_M_take_18 : decode kc_M_take 18 = .ok (.iload 6, 2) := by decide +kernel
theorem kd_M_take_20 : decode kc_M_take 20 = .ok (.ifCond .le 119, 3) := by decide +kernel
theorem kd_M_take_23 : decode kc_M_take 23 = .ok (.aload_n 0, 1) := by decide +kernel
theorem kd_M_take_24 : decode kc_M_take 24 = .ok (.getfield 163, 3) := by decide +kernel
theorem kd_M_take_27 : decode kc_M_take 27 = .ok (.iload 7, 2) := by decide +kernel
theorem kd_M_take_29 : decode kc_M_take 29 = .ok (.iaload, 1) := by decide +kernel
theorem kd_M_take_30 : decode kc_M_take 30 = .ok (.iload_n 1, 1) := by decide +kernel
theorem kd_M_take_31 : decode kc_M_take 31 = .ok (.if_icmp .ne 108, 3) := by decide +kernel
theorem kd_M_take_34 : decode kc_M_take 34 = .ok (.aload_n 0, 1) := by decide +kernel
theorem kd_M_take_35 : decode kc_M_take 35 = .ok (.getfield 175, 3) := by decide +kernel
theorem kd_M_take_38 : decode kc_M_take 38 = .ok (.iload 7, 2) := by decide +kernel
theorem kd_M_take_40 : decode kc_M_take 40 = .ok (.baload, 1) := by decide +kernel
theorem kd_M_take_41 : decode kc_M_take 41 = .ok (.iload_n 3, 1) := by decide +kernel
theorem kd_M_take_42 : decode kc_M_take 42 = .ok (.if_icmp .ne 97, 3) := by decide +kernel
theorem kd_M_take_45 : decode kc_M_take 45 = .ok (.aload_n 0, 1) := by decide +kernel
theorem kd_M_take_46 : decode kc_M_take 46 = .ok (.getfield 169, 3) := by decide +kernel
theorem kd_M_take_49 : decode kc_M_take 49 = .ok (.iload 7, 2) := by decide +kernel
theorem kd_M_take_51 : decode kc_M_take 51 = .ok (.iaload, 1) := by decide +kernel
theorem kd_M_take_52 : decode kc_M_take 52 = .ok (.aload_n 0, 1) := by decide +kernel
theorem kd_M_take_53 : decode kc_M_take 53 = .ok (.getfield 166, 3) := by decide +kernel
theorem kd_M_take_56 : decode kc_M_take 56 = .ok (.iload 7, 2) := by decide +kernel
theorem kd_M_take_58 : decode kc_M_take 58 = .ok (.iaload, 1) := by decide +kernel
theorem kd_M_take_59 : decode kc_M_take 59 = .ok (.if_icmp .ge 80, 3) := by decide +kernel
theorem kd_M_take_62 : decode kc_M_take 62 = .ok (.lload 4, 2) := by decide +kernel
theorem kd_M_take_64 : decode kc_M_take 64 = .ok (.aload_n 0, 1) := by decide +kernel
theorem kd_M_take_65 : decode kc_M_take 65 = .ok (.getfield 172, 3) := by decide +kernel
theorem kd_M_take_68 : decode kc_M_take 68 = .ok (.iload 7, 2) := by decide +kernel
theorem kd_M_take_70 : decode kc_M_take 70 = .ok (.laload, 1) := by decide +kernel
theorem kd_M_take_71 : decode kc_M_take 71 = .ok (.aload_n 0, 1) := by decide +kernel
theorem kd_M_take_72 : decode kc_M_take 72 = .ok (.getfield 169, 3) := by decide +kernel
theorem kd_M_take_75 : decode kc_M_take 75 = .ok (.iload 7, 2) := by decide +kernel
theorem kd_M_take_77 : decode kc_M_take 77 = .ok (.iaload, 1) := by decide +kernel
theorem kd_M_take_78 : decode kc_M_take 78 = .ok (.i2l, 1) := by decide +kernel
theorem kd_M_take_79 : decode kc_M_take 79 = .ok (.lmul, 1) := by decide +kernel
theorem kd_M_take_80 : decode kc_M_take 80 = .ok (.aload_n 0, 1) := by decide +kernel
theorem kd_M_take_81 : decode kc_M_take 81 = .ok (.getfield 166, 3) := by decide +kernel
theorem kd_M_take_84 : decode kc_M_take 84 = .ok (.iload 7, 2) := by decide +kernel
theorem kd_M_take_86 : decode kc_M_take 86 = .ok (.iaload, 1) := by decide +kernel
theorem kd_M_take_87 : decode kc_M_take 87 = .ok (.i2l, 1) := by decide +kernel
theorem kd_M_take_88 : decode kc_M_take 88 = .ok (.ldiv, 1) := by decide +kernel
theorem kd_M_take_89 : decode kc_M_take 89 = .ok (.lsub, 1) := by decide +kernel
theorem kd_M_take_90 : decode kc_M_take 90 = .ok (.lstore 4, 2) := by decide +kernel
theorem kd_M_take_92 : decode kc_M_take 92 = .ok (.aload_n 0, 1) := by decide +kernel
theorem kd_M_take_93 : decode kc_M_take 93 = .ok (.getfield 169, 3) := by decide +kernel
theorem kd_M_take_96 : decode kc_M_take 96 = .ok (.iload 7, 2) := by decide +kernel
theorem kd_M_take_98 : decode kc_M_take 98 = .ok (.dup2, 1) := by decide +kernel
theorem kd_M_take_99 : decode kc_M_take 99 = .ok (.iaload, 1) := by decide +kernel
theorem kd_M_take_100 : decode kc_M_take 100 = .ok (.iconst 1, 1) := by decide +kernel
