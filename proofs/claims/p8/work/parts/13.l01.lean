abbrev kc_W_law : ByteArray := code
theorem kd_W_law_0 : decode kc_W_law 0 = .ok (.new 8, 3) := by decide +kernel
theorem kd_W_law_3 : decode kc_W_law 3 = .ok (.dup, 1) := by decide +kernel
theorem kd_W_law_4 : decode kc_W_law 4 = .ok (.invokespecial 103, 3) := by decide +kernel
theorem kd_W_law_7 : decode kc_W_law 7 = .ok (.astore_n 1, 1) := by decide +kernel
theorem kd_W_law_8 : decode kc_W_law 8 = .ok (.new 104, 3) := by decide +kernel
theorem kd_W_law_11 : decode kc_W_law 11 = .ok (.dup, 1) := by decide +kernel
theorem kd_W_law_12 : decode kc_W_law 12 = .ok (.invokespecial 106, 3) := by decide +kernel
theorem kd_W_law_15 : decode kc_W_law 15 = .ok (.astore_n 2, 1) := by decide +kernel
theorem kd_W_law_16 : decode kc_W_law 16 = .ok (.iconst 1, 1) := by decide +kernel
theorem kd_W_law_17 : decode kc_W_law 17 = .ok (.newarray .long, 2) := by decide +kernel
theorem kd_W_law_19 : decode kc_W_law 19 = .ok (.astore_n 3, 1) := by decide +kernel
theorem kd_W_law_20 : decode kc_W_law 20 = .ok (.iconst 0, 1) := by decide +kernel
theorem kd_W_law_21 : decode kc_W_law 21 = .ok (.istore 4, 2) := by decide +kernel
theorem kd_W_law_23 : decode kc_W_law 23 = .ok (.iload 4, 2) := by decide +kernel
theorem kd_W_law_25 : decode kc_W_law 25 = .ok (.aload_n 0, 1) := by decide +kernel
theorem kd_W_law_26 : decode kc_W_law 26 = .ok (.arraylength, 1) := by decide +kernel
theorem kd_W_law_27 : decode kc_W_law 27 = .ok (.bipush 8, 2) := by decide +kernel
theorem kd_W_law_29 : decode kc_W_law 29 = .ok (.isub, 1) := by decide +kernel
theorem kd_W_law_30 : decode kc_W_law 30 = .ok (.if_icmp .gt 1397, 3) := by decide +kernel
theorem kd_W_law_33 : decode kc_W_law 33 = .ok (.aload_n 0, 1) := by decide +kernel
theorem kd_W_law_34 : decode kc_W_law 34 = .ok (.iload 4, 2) := by decide +kernel
theorem kd_W_law_36 : decode kc_W_law 36 = .ok (.iaload, 1) := by decide +kernel
theorem kd_W_law_37 : decode kc_W_law 37 = .ok (.bipush 31, 2) := by decide +kernel
theorem kd_W_law_39 : decode kc_W_law 39 = .ok (.iand, 1) := by decide +kernel
theorem kd_W_law_40 : decode kc_W_law 40 = .ok (.tableswitch 1381 0 23 #[112, 140, 204, 256, 284, 388, 440, 558, 586, 650, 687, 736, 776, 816, 936, 985, 1037, 1065, 1129, 1169, 1209, 1273, 1313, 1353], 112) := by decide +kernel
theorem kd_W_law_152 : decode kc_W_law 152 = .ok (.aload_n 1, 1) := by decide +kernel
theorem kd_W_law_153 : decode kc_W_law 153 = .ok (.aload_n 0, 1) := by decide +kernel
theorem kd_W_law_154 : decode kc_W_law 154 = .ok (.iload 4, 2) := by decide +kernel
theorem kd_W_law_156 : decode kc_W_law 156 = .ok (.iconst 1, 1) := by decide +kernel
theorem kd_W_law_157 : decode kc_W_law 157 = .ok (.iadd, 1) := by decide +kernel
theorem kd_W_law_158 : decode kc_W_law 158 = .ok (.iaload, 1) := by decide +kernel
theorem kd_W_law_159 : decode kc_W_law 159 = .ok (.aload_n 3, 1) := by decide +kernel
theorem kd_W_law_160 : decode kc_W_law 160 = .ok (.invokestatic 107, 3) := by decide +kernel
theorem kd_W_law_163 : decode kc_W_law 163 = .ok (.istore 5, 2) := by decide +kernel
theorem kd_W_law_165 : decode kc_W_law 165 = .ok (.aload_n 2, 1) := by decide +kernel
theorem kd_W_law_166 : decode kc_W_law 166 = .ok (.aload_n 0, 1) := by decide +kernel
theorem kd_W_law_167 : decode kc_W_law 167 = .ok (.iload 4, 2) := by decide +kernel
theorem kd_W_law_169 : decode kc_W_law 169 = .ok (.iconst 1, 1) := by decide +kernel
theorem kd_W_law_170 : decode kc_W_law 170 = .ok (.iadd, 1) := by decide +kernel
theorem kd_W_law_171 : decode kc_W_law 171 = .ok (.iaload, 1) := by decide +kernel
theorem kd_W_law_172 : decode kc_W_law 172 = .ok (.invokevirtual 112, 3) := by decide +kernel
theorem kd_W_law_175 : decode kc_W_law 175 = .ok (.istore 6, 2) := by decide +kernel
theorem kd_W_law_177 : decode kc_W_law 177 = .ok (.goto 1244, 3) := by decide +kernel
theorem kd_W_law_180 : decode kc_W_law 180 = .ok (.aload_n 1, 1) := by decide +kernel
theorem kd_W_law_181 : decode kc_W_law 181 = .ok (.aload_n 0, 1) := by decide +kernel
theorem kd_W_law_182 : decode kc_W_law 182 = .ok (.iload 4, 2) := by decide +kernel
theorem kd_W_law_184 : decode kc_W_law 184 = .ok (.iconst 1, 1) := by decide +kernel
theorem kd_W_law_185 : decode kc_W_law 185 = .ok (.iadd, 1) := by decide +kernel
theorem kd_W_law_186 : decode kc_W_law 186 = .ok (.iaload, 1) := by decide +kernel
theorem kd_W_law_187 : decode kc_W_law 187 = .ok (.aload_n 0, 1) := by decide +kernel
theorem kd_W_law_188 : decode kc_W_law 188 = .ok (.iload 4, 2) := by decide +kernel
theorem kd_W_law_190 : decode kc_W_law 190 = .ok (.iconst 2, 1) := by decide +kernel
theorem kd_W_law_191 : decode kc_W_law 191 = .ok (.iadd, 1) := by decide +kernel
theorem kd_W_law_192 : decode kc_W_law 192 = .ok (.iaload, 1) := by decide +kernel
theorem kd_W_law_193 : decode kc_W_law 193 = .ok (.aload_n 0, 1) := by decide +kernel
theorem kd_W_law_194 : decode kc_W_law 194 = .ok (.iload 4, 2) := by decide +kernel
theorem kd_W_law_196 : decode kc_W_law 196 = .ok (.iconst 3, 1) := by decide +kernel
theorem kd_W_law_197 : decode kc_W_law 197 = .ok (.iadd, 1) := by decide +kernel
theorem kd_W_law_198 : decode kc_W_law 198 = .ok (.iaload, 1) := by decide +kernel
theorem kd_W_law_199 : decode kc_W_law 199 = .ok (.aload_n 0, 1) := by decide +kernel
theorem kd_W_law_200 : decode kc_W_law 200 = .ok (.iload 4, 2) := by decide +kernel
theorem kd_W_law_202 : decode kc_W_law 202 = .ok (.iconst 4, 1) := by decide +kernel
theorem kd_W_law_203 : decode kc_W_law 203 = .ok (.iadd, 1) := by decide +kernel
theorem kd_W_law_204 : decode kc_W_law 204 = .ok (.iaload, 1) := by decide +kernel
theorem kd_W_law_205 : decode kc_W_law 205 = .ok (.aload_n 3, 1) := by decide +kernel
theorem kd_W_law_206 : decode kc_W_law 206 = .ok (.invokestatic 113, 3) := by decide +kernel
theorem kd_W_law_209 : decode kc_W_law 209 = .ok (.istore 5, 2) := by decide +kernel
theorem kd_W_law_211 : decode kc_W_law 211 = .ok (.aload_n 2, 1) := by decide +kernel
theorem kd_W_law_212 : decode kc_W_law 212 = .ok (.aload_n 0, 1) := by decide +kernel
theorem kd_W_law_213 : decode kc_W_law 213 = .ok (.iload 4, 2) := by decide +kernel
theorem kd_W_law_215 : decode kc_W_law 215 = .ok (.iconst 1, 1) := by decide +kernel
theorem kd_W_law_216 : decode kc_W_law 216 = .ok (.iadd, 1) := by decide +kernel
theorem kd_W_law_217 : decode kc_W_law 217 = .ok (.iaload, 1) := by decide +kernel
theorem kd_W_law_218 : decode kc_W_law 218 = .ok (.aload_n 0, 1) := by decide +kernel
theorem kd_W_law_219 : decode kc_W_law 219 = .ok (.iload 4, 2) := by decide +kernel
theorem kd_W_law_221 : decode kc_W_law 221 = .ok (.iconst 2, 1) := by decide +kernel
theorem kd_W_law_222 : decode kc_W_law 222 = .ok (.iadd, 1) := by decide +kernel
theorem kd_W_law_223 : decode kc_W_law 223 = .ok (.iaload, 1) := by decide +kernel
theorem kd_W_law_224 : decode kc_W_law 224 = .ok (.aload_n 0, 1) := by decide +kernel
theorem kd_W_law_225 : decode kc_W_law 225 = .ok (.iload 4, 2) := by decide +kernel
theorem kd_W_law_227 : decode kc_W_law 227 = .ok (.iconst 3, 1) := by decide +kernel
theorem kd_W_law_228 : decode kc_W_law 228 = .ok (.iadd, 1) := by decide +kernel
theorem kd_W_law_229 : decode kc_W_law 229 = .ok (.iaload, 1) := by decide +kernel
theorem kd_W_law_230 : decode kc_W_law 230 = .ok (.aload_n 0, 1) := by decide +kernel
theorem kd_W_law_231 : decode kc_W_law 231 = .ok (.iload 4, 2) := by decide +kernel
theorem kd_W_law_233 : decode kc_W_law 233 = .ok (.iconst 4, 1) := by decide +kernel
theorem kd_W_law_234 : decode kc_W_law 234 = .ok (.iadd, 1) := by decide +kernel
theorem kd_W_law_235 : decode kc_W_law 235 = .ok (.iaload, 1) := by decide +kernel
theorem kd_W_law_236 : decode kc_W_law 236 = .ok (.invokevirtual 116, 3) := by decide +kernel
theorem kd_W_law_239 : decode kc_W_law 239 = .ok (.istore 6, 2) := by decide +kernel
theorem kd_W_law_241 : decode kc_W_law 241 = .ok (.goto 1180, 3) := by decide +kernel
theorem kd_W_law_244 : decode kc_W_law 244 = .ok (.aload_n 1, 1) := by decide +kernel
theorem kd_W_law_245 : decode kc_W_law 245 = .ok (.aload_n 0, 1) := by decide +kernel
theorem kd_W_law_246 : decode kc_W_law 246 = .ok (.iload 4, 2) := by decide +kernel
theorem kd_W_law_248 : decode kc_W_law 248 = .ok (.iconst 1, 1) := by decide +kernel
theorem kd_W_law_249 : decode kc_W_law 249 = .ok (.iadd, 1) := by decide +kernel
theorem kd_W_law_250 : decode kc_W_law 250 = .ok (.iaload, 1) := by decide +kernel
theorem kd_W_law_251 : decode kc_W_law 251 = .ok (.aload_n 0, 1) := by decide +kernel
theorem kd_W_law_252 : decode kc_W_law 252 = .ok (.iload 4, 2) := by decide +kernel
theorem kd_W_law_254 : decode kc_W_law 254 = .ok (.iconst 2, 1) := by decide +kernel
theorem kd_W_law_255 : decode kc_W_law 255 = .ok (.iadd, 1) := by decide +kernel
theorem kd_W_law_256 : decode kc_W_law 256 = .ok (.iaload, 1) := by decide +kernel
theorem kd_W_law_257 : decode kc_W_law 257 = .ok (.aload_n 0, 1) := by decide +kernel
theorem kd_W_law_258 : decode kc_W_law 258 = .ok (.iload 4, 2) := by decide +kernel
theorem kd_W_law_260 : decode kc_W_law 260 = .ok (.iconst 3, 1) := by decide +kernel
theorem kd_W_law_261 : decode kc_W_law 261 = .ok (.iadd, 1) := by decide +kernel
theorem kd_W_law_262 : decode kc_W_law 262 = .ok (.iaload, 1) := by decide +kernel
theorem kd_W_law_263 : decode kc_W_law 263 = .ok (.aload_n 3, 1) := by decide +kernel
theorem kd_W_law_264 : decode kc_W_law 264 = .ok (.invokestatic 117, 3) := by decide +kernel
theorem kd_W_law_267 : decode kc_W_law 267 = .ok (.istore 5, 2) := by decide +kernel
theorem kd_W_law_269 : decode kc_W_law 269 = .ok (.aload_n 2, 1) := by decide +kernel
theorem kd_W_law_270 : decode kc_W_law 270 = .ok (.aload_n 0, 1) := by decide +kernel
theorem kd_W_law_271 : decode kc_W_law 271 = .ok (.iload 4, 2) := by decide +kernel
theorem kd_W_law_273 : decode kc_W_law 273 = .ok (.iconst 1, 1) := by decide +kernel
theorem kd_W_law_274 : decode kc_W_law 274 = .ok (.iadd, 1) := by decide +kernel
theorem kd_W_law_275 : decode kc_W_law 275 = .ok (.iaload, 1) := by decide +kernel
theorem kd_W_law_276 : decode kc_W_law 276 = .ok (.aload_n 0, 1) := by decide +kernel
theorem kd_W_law_277 : decode kc_W_law 277 = .ok (.iload 4, 2) := by decide +kernel
theorem kd_W_law_279 : decode kc_W_law 279 = .ok (.iconst 2, 1) := by decide +kernel
theorem kd_W_law_280 : decode kc_W_law 280 = .ok (.iadd, 1) := by decide +kernel
theorem kd_W_law_281 : decode kc_W_law 281 = .ok (.iaload, 1) := by decide +kernel
theorem kd_W_law_282 : decode kc_W_law 282 = .ok (.aload_n 0, 1) := by decide +kernel
theorem kd_W_law_283 : decode kc_W_law 283 = .ok (.iload 4, 2) := by decide +kernel
theorem kd_W_law_285 : decode kc_W_law 285 = .ok (.iconst 3, 1) := by decide +kernel
theorem kd_W_law_286 : decode kc_W_law 286 = .ok (.iadd, 1) := by decide +kernel
theorem kd_W_law_287 : decode kc_W_law 287 = .ok (.iaload, 1) := by decide +kernel
theorem kd_W_law_288 : decode kc_W_law 288 = .ok (.invokevirtual 120, 3) := by decide +kernel
theorem kd_W_law_291 : decode kc_W_law 291 = .ok (.istore 6, 2) := by decide +kernel
theorem kd_W_law_293 : decode kc_W_law 293 = .ok (.goto 1128, 3) := by decide +kernel
theorem kd_W_law_296 : decode kc_W_law 296 = .ok (.aload_n 1, 1) := by decide +kernel
theorem kd_W_law_297 : decode kc_W_law 297 = .ok (.aload_n 0, 1) := by decide +kernel
theorem kd_W_law_298 : decode kc_W_law 298 = .ok (.iload 4, 2) := by decide +kernel
theorem kd_W_law_300 : decode kc_W_law 300 = .ok (.iconst 1, 1) := by decide +kernel
theorem kd_W_law_301 : decode kc_W_law 301 = .ok (.iadd, 1) := by decide +kernel
theorem kd_W_law_302 : decode kc_W_law 302 = .ok (.iaload, 1) := by decide +kernel
theorem kd_W_law_303 : decode kc_W_law 303 = .ok (.aload_n 3, 1) := by decide +kernel
theorem kd_W_law_304 : decode kc_W_law 304 = .ok (.invokestatic 121, 3) := by decide +kernel
theorem kd_W_law_307 : decode kc_W_law 307 = .ok (.istore 5, 2) := by decide +kernel
theorem kd_W_law_309 : decode kc_W_law 309 = .ok (.aload_n 2, 1) := by decide +kernel
theorem kd_W_law_310 : decode kc_W_law 310 = .ok (.aload_n 0, 1) := by decide +kernel
theorem kd_W_law_311 : decode kc_W_law 311 = .ok (.iload 4, 2) := by decide +kernel
theorem kd_W_law_313 : decode kc_W_law 313 = .ok (.iconst 1, 1) := by decide +kernel
theorem kd_W_law_314 : decode kc_W_law 314 = .ok (.iadd, 1) := by decide +kernel
theorem kd_W_law_315 : decode kc_W_law 315 = .ok (.iaload, 1) := by decide +kernel
theorem kd_W_law_316 : decode kc_W_law 316 = .ok (.invokevirtual 123, 3) := by decide +kernel
theorem kd_W_law_319 : decode kc_W_law 319 = .ok (.istore 6, 2) := by decide +kernel
theorem kd_W_law_321 : decode kc_W_law 321 = .ok (.goto 1100, 3) := by decide +kernel
theorem kd_W_law_324 : decode kc_W_law 324 = .ok (.aload_n 1, 1) := by decide +kernel
theorem kd_W_law_325 : decode kc_W_law 325 = .ok (.aload_n 0, 1) := by decide +kernel
theorem kd_W_law_326 : decode kc_W_law 326 = .ok (.iload 4, 2) := by decide +kernel
theorem kd_W_law_328 : decode kc_W_law 328 = .ok (.iconst 1, 1) := by decide +kernel
theorem kd_W_law_329 : decode kc_W_law 329 = .ok (.iadd, 1) := by decide +kernel
theorem kd_W_law_330 : decode kc_W_law 330 = .ok (.iaload, 1) := by decide +kernel
theorem kd_W_law_331 : decode kc_W_law 331 = .ok (.aload_n 0, 1) := by decide +kernel
theorem kd_W_law_332 : decode kc_W_law 332 = .ok (.iload 4, 2) := by decide +kernel
theorem kd_W_law_334 : decode kc_W_law 334 = .ok (.iconst 2, 1) := by decide +kernel
theorem kd_W_law_335 : decode kc_W_law 335 = .ok (.iadd, 1) := by decide +kernel
theorem kd_W_law_336 : decode kc_W_law 336 = .ok (.iaload, 1) := by decide +kernel
theorem kd_W_law_337 : decode kc_W_law 337 = .ok (.aload_n 0, 1) := by decide +kernel
theorem kd_W_law_338 : decode kc_W_law 338 = .ok (.iload 4, 2) := by decide +kernel
theorem kd_W_law_340 : decode kc_W_law 340 = .ok (.iconst 3, 1) := by decide +kernel
theorem kd_W_law_341 : decode kc_W_law 341 = .ok (.iadd, 1) := by decide +kernel
theorem kd_W_law_342 : decode kc_W_law 342 = .ok (.iaload, 1) := by decide +kernel
theorem kd_W_law_343 : decode kc_W_law 343 = .ok (.aload_n 0, 1) := by decide +kernel
theorem kd_W_law_344 : decode kc_W_law 344 = .ok (.iload 4, 2) := by decide +kernel
theorem kd_W_law_346 : decode kc_W_law 346 = .ok (.iconst 4, 1) := by decide +kernel
theorem kd_W_law_347 : decode kc_W_law 347 = .ok (.iadd, 1) := by decide +kernel
theorem kd_W_law_348 : decode kc_W_law 348 = .ok (.iaload, 1) := by decide +kernel
theorem kd_W_law_349 : decode kc_W_law 349 = .ok (.aload_n 0, 1) := by decide +kernel
theorem kd_W_law_350 : decode kc_W_law 350 = .ok (.iload 4, 2) := by decide +kernel
theorem kd_W_law_352 : decode kc_W_law 352 = .ok (.iconst 5, 1) := by decide +kernel
theorem kd_W_law_353 : decode kc_W_law 353 = .ok (.iadd, 1) := by decide +kernel
theorem kd_W_law_354 : decode kc_W_law 354 = .ok (.iaload, 1) := by decide +kernel
theorem kd_W_law_355 : decode kc_W_law 355 = .ok (.aload_n 0, 1) := by decide +kernel
theorem kd_W_law_356 : decode kc_W_law 356 = .ok (.iload 4, 2) := by decide +kernel
theorem kd_W_law_358 : decode kc_W_law 358 = .ok (.bipush 6, 2) := by decide +kernel
theorem kd_W_law_360 : decode kc_W_law 360 = .ok (.iadd, 1) := by decide +kernel
theorem kd_W_law_361 : decode kc_W_law 361 = .ok (.iaload, 1) := by decide +kernel
theorem kd_W_law_362 : decode kc_W_law 362 = .ok (.aload_n 0, 1) := by decide +kernel
theorem kd_W_law_363 : decode kc_W_law 363 = .ok (.iload 4, 2) := by decide +kernel
theorem kd_W_law_365 : decode kc_W_law 365 = .ok (.bipush 7, 2) := by decide +kernel
theorem kd_W_law_367 : decode kc_W_law 367 = .ok (.iadd, 1) := by decide +kernel
theorem kd_W_law_368 : decode kc_W_law 368 = .ok (.iaload, 1) := by decide +kernel
theorem kd_W_law_369 : decode kc_W_law 369 = .ok (.aload_n 3, 1) := by decide +kernel
theorem kd_W_law_370 : decode kc_W_law 370 = .ok (.invokestatic 124, 3) := by decide +kernel
theorem kd_W_law_373 : decode kc_W_law 373 = .ok (.istore 5, 2) := by decide +kernel
theorem kd_W_law_375 : decode kc_W_law 375 = .ok (.aload_n 2, 1) := by decide +kernel
theorem kd_W_law_376 : decode kc_W_law 376 = .ok (.aload_n 0, 1) := by decide +kernel
theorem kd_W_law_377 : decode kc_W_law 377 = .ok (.iload 4, 2) := by decide +kernel
theorem kd_W_law_379 : decode kc_W_law 379 = .ok (.iconst 1, 1) := by decide +kernel
theorem kd_W_law_380 : decode kc_W_law 380 = .ok (.iadd, 1) := by decide +kernel
theorem kd_W_law_381 : decode kc_W_law 381 = .ok (.iaload, 1) := by decide +kernel
theorem kd_W_law_382 : decode kc_W_law 382 = .ok (.aload_n 0, 1) := by decide +kernel
theorem kd_W_law_383 : decode kc_W_law 383 = .ok (.iload 4, 2) := by decide +kernel
theorem kd_W_law_385 : decode kc_W_law 385 = .ok (.iconst 2, 1) := by decide +kernel
theorem kd_W_law_386 : decode kc_W_law 386 = .ok (.iadd, 1) := by decide +kernel
theorem kd_W_law_387 : decode kc_W_law 387 = .ok (.iaload, 1) := by decide +kernel
theorem kd_W_law_388 : decode kc_W_law 388 = .ok (.aload_n 0, 1) := by decide +kernel
theorem kd_W_law_389 : decode kc_W_law 389 = .ok (.iload 4, 2) := by decide +kernel
theorem kd_W_law_391 : decode kc_W_law 391 = .ok (.iconst 3, 1) := by decide +kernel
theorem kd_W_law_392 : decode kc_W_law 392 = .ok (.iadd, 1) := by decide +kernel
theorem kd_W_law_393 : decode kc_W_law 393 = .ok (.iaload, 1) := by decide +kernel
theorem kd_W_law_394 : decode kc_W_law 394 = .ok (.aload_n 0, 1) := by decide +kernel
theorem kd_W_law_395 : decode kc_W_law 395 = .ok (.iload 4, 2) := by decide +kernel
theorem kd_W_law_397 : decode kc_W_law 397 = .ok (.iconst 4, 1) := by decide +kernel
theorem kd_W_law_398 : decode kc_W_law 398 = .ok (.iadd, 1) := by decide +kernel
theorem kd_W_law_399 : decode kc_W_law 399 = .ok (.iaload, 1) := by decide +kernel
theorem kd_W_law_400 : decode kc_W_law 400 = .ok (.aload_n 0, 1) := by decide +kernel
theorem kd_W_law_401 : decode kc_W_law 401 = .ok (.iload 4, 2) := by decide +kernel
theorem kd_W_law_403 : decode kc_W_law 403 = .ok (.iconst 5, 1) := by decide +kernel
theorem kd_W_law_404 : decode kc_W_law 404 = .ok (.iadd, 1) := by decide +kernel
theorem kd_W_law_405 : decode kc_W_law 405 = .ok (.iaload, 1) := by decide +kernel
theorem kd_W_law_406 : decode kc_W_law 406 = .ok (.aload_n 0, 1) := by decide +kernel
theorem kd_W_law_407 : decode kc_W_law 407 = .ok (.iload 4, 2) := by decide +kernel
theorem kd_W_law_409 : decode kc_W_law 409 = .ok (.bipush 6, 2) := by decide +kernel
theorem kd_W_law_411 : decode kc_W_law 411 = .ok (.iadd, 1) := by decide +kernel
theorem kd_W_law_412 : decode kc_W_law 412 = .ok (.iaload, 1) := by decide +kernel
theorem kd_W_law_413 : decode kc_W_law 413 = .ok (.aload_n 0, 1) := by decide +kernel
theorem kd_W_law_414 : decode kc_W_law 414 = .ok (.iload 4, 2) := by decide +kernel
theorem kd_W_law_416 : decode kc_W_law 416 = .ok (.bipush 7, 2) := by decide +kernel
theorem kd_W_law_418 : decode kc_W_law 418 = .ok (.iadd, 1) := by decide +kernel
theorem kd_W_law_419 : decode kc_W_law 419 = .ok (.iaload, 1) := by decide +kernel
theorem kd_W_law_420 : decode kc_W_law 420 = .ok (.invokevirtual 127, 3) := by decide +kernel
theorem kd_W_law_423 : decode kc_W_law 423 = .ok (.istore 6, 2) := by decide +kernel
theorem kd_W_law_425 : decode kc_W_law 425 = .ok (.goto 996, 3) := by decide +kernel
theorem kd_W_law_428 : decode kc_W_law 428 = .ok (.aload_n 1, 1) := by decide +kernel
theorem kd_W_law_429 : decode kc_W_law 429 = .ok (.aload_n 0, 1) := by decide +kernel
theorem kd_W_law_430 : decode kc_W_law 430 = .ok (.iload 4, 2) := by decide +kernel
theorem kd_W_law_432 : decode kc_W_law 432 = .ok (.iconst 1, 1) := by decide +kernel
theorem kd_W_law_433 : decode kc_W_law 433 = .ok (.iadd, 1) := by decide +kernel
theorem kd_W_law_434 : decode kc_W_law 434 = .ok (.iaload, 1) := by decide +kernel
theorem kd_W_law_435 : decode kc_W_law 435 = .ok (.aload_n 0, 1) := by decide +kernel
theorem kd_W_law_436 : decode kc_W_law 436 = .ok (.iload 4, 2) := by decide +kernel
theorem kd_W_law_438 : decode kc_W_law 438 = .ok (.iconst 2, 1) := by decide +kernel
theorem kd_W_law_439 : decode kc_W_law 439 = .ok (.iadd, 1) := by decide +kernel
theorem kd_W_law_440 : decode kc_W_law 440 = .ok (.iaload, 1) := by decide +kernel
theorem kd_W_law_441 : decode kc_W_law 441 = .ok (.aload_n 0, 1) := by decide +kernel
theorem kd_W_law_442 : decode kc_W_law 442 = .ok (.iload 4, 2) := by decide +kernel
theorem kd_W_law_444 : decode kc_W_law 444 = .ok (.iconst 3, 1) := by decide +kernel
theorem kd_W_law_445 : decode kc_W_law 445 = .ok (.iadd, 1) := by decide +kernel
theorem kd_W_law_446 : decode kc_W_law 446 = .ok (.iaload, 1) := by decide +kernel
theorem kd_W_law_447 : decode kc_W_law 447 = .ok (.aload_n 3, 1) := by decide +kernel
theorem kd_W_law_448 : decode kc_W_law 448 = .ok (.invokestatic 128, 3) := by decide +kernel
theorem kd_W_law_451 : decode kc_W_law 451 = .ok (.istore 5, 2) := by decide +kernel
theorem kd_W_law_453 : decode kc_W_law 453 = .ok (.aload_n 2, 1) := by decide +kernel
theorem kd_W_law_454 : decode kc_W_law 454 = .ok (.aload_n 0, 1) := by decide +kernel
theorem kd_W_law_455 : decode kc_W_law 455 = .ok (.iload 4, 2) := by decide +kernel
theorem kd_W_law_457 : decode kc_W_law 457 = .ok (.iconst 1, 1) := by decide +kernel
theorem kd_W_law_458 : decode kc_W_law 458 = .ok (.iadd, 1) := by decide +kernel
