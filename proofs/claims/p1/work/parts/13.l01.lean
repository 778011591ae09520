abbrev kc_W_law : ByteArray := code
theorem kd_W_law_0 : decode kc_W_law 0 = .ok (.new 8, 3) := by decide +kernel
theorem kd_W_law_3 : decode kc_W_law 3 = .ok (.dup, 1) := by decide +kernel
theorem kd_W_law_4 : decode kc_W_law 4 = .ok (.invokespecial 103, 3) := by decide +kernel
theorem kd_W_law_7 : decode kc_W_law 7 = .ok (.astore_n 1, 1) := by decide +kernel
theorem kd_W_law_8 : decode kc_W_law 8 = .ok (.new 104, 3) := by decide +kernel
theorem kd_W_law_11 : decode kc_W_law 11 = .ok (.dup, 1) := by decide +kernel
theorem kd_W_law_12 : decode kc_W_law 12 = .ok (.invokespecial 106, 3) := by decide +kernel
theorem kd_W_law_15 : decode kc_W_law 15 = .ok (.astore_n 2, 1) := by decide +kernel
theorem kd_W_law_16 : decode kc_W_law 16 = .ok (.iconst 1, 1) := by decide +kernel
theorem kd_W_law_17 : decode kc_W_law 17 = .ok (.newarray .long, 2) := by decide +kernel
theorem kd_W_law_19 : decode kc_W_law 19 = .ok (.astore_n 3, 1) := by decide +kernel
theorem kd_W_law_20 : decode kc_W_law 20 = .ok (.iconst 0, 1) := by decide +kernel
theorem kd_W_law_21 : decode kc_W_law 21 = .ok (.istore 4, 2) := by decide +kernel
theorem kd_W_law_23 : decode kc_W_law 23 = .ok (.iload 4, 2) := by decide +kernel
theorem kd_W_law_25 : decode kc_W_law 25 = .ok (.aload_n 0, 1) := by decide +kernel
theorem kd_W_law_26 : decode kc_W_law 26 = .ok (.arraylength, 1) := by decide +kernel
theorem kd_W_law_27 : decode kc_W_law 27 = .ok (.bipush 8, 2) := by decide +kernel
theorem kd_W_law_29 : decode kc_W_law 29 = .ok (.isub, 1) := by decide +kernel
theorem kd_W_law_30 : decode kc_W_law 30 = .ok (.if_icmp .gt 1989, 3) := by decide +kernel
theorem kd_W_law_33 : decode kc_W_law 33 = .ok (.aload_n 0, 1) := by decide +kernel
theorem kd_W_law_34 : decode kc_W_law 34 = .ok (.iload 4, 2) := by decide +kernel
theorem kd_W_law_36 : decode kc_W_law 36 = .ok (.iaload, 1) := by decide +kernel
theorem kd_W_law_37 : decode kc_W_law 37 = .ok (.bipush 31, 2) := by decide +kernel
theorem kd_W_law_39 : decode kc_W_law 39 = .ok (.iand, 1) := by decide +kernel
theorem kd_W_law_40 : decode kc_W_law 40 = .ok (.tableswitch 1973 0 23 #[112, 168, 260, 340, 396, 528, 608, 726, 782, 874, 922, 982, 1057, 1125, 1273, 1333, 1412, 1467, 1558, 1625, 1692, 1784, 1851, 1918], 112) := by decide +kernel
theorem kd_W_law_152 : decode kc_W_law 152 = .ok (.aload_n 1, 1) := by decide +kernel
theorem kd_W_law_153 : decode kc_W_law 153 = .ok (.aload_n 0, 1) := by decide +kernel
theorem kd_W_law_154 : decode kc_W_law 154 = .ok (.iload 4, 2) := by decide +kernel
theorem kd_W_law_156 : decode kc_W_law 156 = .ok (.iconst 1, 1) := by decide +kernel
theorem kd_W_law_157 : decode kc_W_law 157 = .ok (.iadd, 1) := by decide +kernel
theorem kd_W_law_158 : decode kc_W_law 158 = .ok (.iaload, 1) := by decide +kernel
theorem kd_W_law_159 : decode kc_W_law 159 = .ok (.aload_n 3, 1) := by decide +kernel
theorem kd_W_law_160 : decode kc_W_law 160 = .ok (.invokestatic 107, 3) := by decide +kernel
theorem kd_W_law_163 : decode kc_W_law 163 = .ok (.istore 5, 2) := by decide +kernel
theorem kd_W_law_165 : decode kc_W_law 165 = .ok (.aload_n 2, 1) := by decide +kernel
theorem kd_W_law_166 : decode kc_W_law 166 = .ok (.aload_n 0, 1) := by decide +kernel
theorem kd_W_law_167 : decode kc_W_law 167 = .ok (.iload 4, 2) := by decide +kernel
theorem kd_W_law_169 : decode kc_W_law 169 = .ok (.iconst 1, 1) := by decide +kernel
theorem kd_W_law_170 : decode kc_W_law 170 = .ok (.iadd, 1) := by decide +kernel
theorem kd_W_law_171 : decode kc_W_law 171 = .ok (.iaload, 1) := by decide +kernel
theorem kd_W_law_172 : decode kc_W_law 172 = .ok (.invokevirtual 112, 3) := by decide +kernel
theorem kd_W_law_175 : decode kc_W_law 175 = .ok (.istore 6, 2) := by decide +kernel
theorem kd_W_law_177 : decode kc_W_law 177 = .ok (.aload_n 2, 1) := by decide +kernel
theorem kd_W_law_178 : decode kc_W_law 178 = .ok (.invokevirtual 113, 3) := by decide +kernel
theorem kd_W_law_181 : decode kc_W_law 181 = .ok (.iload 5, 2) := by decide +kernel
theorem kd_W_law_183 : decode kc_W_law 183 = .ok (.if_icmp .eq 5, 3) := by decide +kernel
theorem kd_W_law_186 : decode kc_W_law 186 = .ok (.iconst 0, 1) := by decide +kernel
theorem kd_W_law_187 : decode kc_W_law 187 = .ok (.ireturn, 1) := by decide +kernel
theorem kd_W_law_188 : decode kc_W_law 188 = .ok (.iload 5, 2) := by decide +kernel
theorem kd_W_law_190 : decode kc_W_law 190 = .ok (.ifCond .ne 15, 3) := by decide +kernel
theorem kd_W_law_193 : decode kc_W_law 193 = .ok (.aload_n 3, 1) := by decide +kernel
theorem kd_W_law_194 : decode kc_W_law 194 = .ok (.iconst 0, 1) := by decide +kernel
theorem kd_W_law_195 : decode kc_W_law 195 = .ok (.laload, 1) := by decide +kernel
theorem kd_W_law_196 : decode kc_W_law 196 = .ok (.iload 6, 2) := by decide +kernel
theorem kd_W_law_198 : decode kc_W_law 198 = .ok (.i2l, 1) := by decide +kernel
theorem kd_W_law_199 : decode kc_W_law 199 = .ok (.lcmp, 1) := by decide +kernel
theorem kd_W_law_200 : decode kc_W_law 200 = .ok (.ifCond .eq 5, 3) := by decide +kernel
theorem kd_W_law_203 : decode kc_W_law 203 = .ok (.iconst 0, 1) := by decide +kernel
theorem kd_W_law_204 : decode kc_W_law 204 = .ok (.ireturn, 1) := by decide +kernel
theorem kd_W_law_205 : decode kc_W_law 205 = .ok (.goto 1808, 3) := by decide +kernel
theorem kd_W_law_208 : decode kc_W_law 208 = .ok (.aload_n 1, 1) := by decide +kernel
theorem kd_W_law_209 : decode kc_W_law 209 = .ok (.aload_n 0, 1) := by decide +kernel
theorem kd_W_law_210 : decode kc_W_law 210 = .ok (.iload 4, 2) := by decide +kernel
theorem kd_W_law_212 : decode kc_W_law 212 = .ok (.iconst 1, 1) := by decide +kernel
theorem kd_W_law_213 : decode kc_W_law 213 = .ok (.iadd, 1) := by decide +kernel
theorem kd_W_law_214 : decode kc_W_law 214 = .ok (.iaload, 1) := by decide +kernel
theorem kd_W_law_215 : decode kc_W_law 215 = .ok (.aload_n 0, 1) := by decide +kernel
theorem kd_W_law_216 : decode kc_W_law 216 = .ok (.iload 4, 2) := by decide +kernel
theorem kd_W_law_218 : decode kc_W_law 218 = .ok (.iconst 2, 1) := by decide +kernel
theorem kd_W_law_219 : decode kc_W_law 219 = .ok (.iadd, 1) := by decide +kernel
theorem kd_W_law_220 : decode kc_W_law 220 = .ok (.iaload, 1) := by decide +kernel
theorem kd_W_law_221 : decode kc_W_law 221 = .ok (.aload_n 0, 1) := by decide +kernel
theorem kd_W_law_222 : decode kc_W_law 222 = .ok (.iload 4, 2) := by decide +kernel
theorem kd_W_law_224 : decode kc_W_law 224 = .ok (.iconst 3, 1) := by decide +kernel
theorem kd_W_law_225 : decode kc_W_law 225 = .ok (.iadd, 1) := by decide +kernel
theorem kd_W_law_226 : decode kc_W_law 226 = .ok (.iaload, 1) := by decide +kernel
theorem kd_W_law_227 : decode kc_W_law 227 = .ok (.aload_n 0, 1) := by decide +kernel
theorem kd_W_law_228 : decode kc_W_law 228 = .ok (.iload 4, 2) := by decide +kernel
theorem kd_W_law_230 : decode kc_W_law 230 = .ok (.iconst 4, 1) := by decide +kernel
theorem kd_W_law_231 : decode kc_W_law 231 = .ok (.iadd, 1) := by decide +kernel
theorem kd_W_law_232 : decode kc_W_law 232 = .ok (.iaload, 1) := by decide +kernel
theorem kd_W_law_233 : decode kc_W_law 233 = .ok (.aload_n 3, 1) := by decide +kernel
theorem kd_W_law_234 : decode kc_W_law 234 = .ok (.invokestatic 117, 3) := by decide +kernel
theorem kd_W_law_237 : decode kc_W_law 237 = .ok (.istore 5, 2) := by decide +kernel
theorem kd_W_law_239 : decode kc_W_law 239 = .ok (.aload_n 2, 1) := by decide +kernel
theorem kd_W_law_240 : decode kc_W_law 240 = .ok (.aload_n 0, 1) := by decide +kernel
theorem kd_W_law_241 : decode kc_W_law 241 = .ok (.iload 4, 2) := by decide +kernel
theorem kd_W_law_243 : decode kc_W_law 243 = .ok (.iconst 1, 1) := by decide +kernel
theorem kd_W_law_244 : decode kc_W_law 244 = .ok (.iadd, 1) := by decide +kernel
theorem kd_W_law_245 : decode kc_W_law 245 = .ok (.iaload, 1) := by decide +kernel
theorem kd_W_law_246 : decode kc_W_law 246 = .ok (.aload_n 0, 1) := by decide +kernel
theorem kd_W_law_247 : decode kc_W_law 247 = .ok (.iload 4, 2) := by decide +kernel
theorem kd_W_law_249 : decode kc_W_law 249 = .ok (.iconst 2, 1) := by decide +kernel
theorem kd_W_law_250 : decode kc_W_law 250 = .ok (.iadd, 1) := by decide +kernel
theorem kd_W_law_251 : decode kc_W_law 251 = .ok (.iaload, 1) := by decide +kernel
theorem kd_W_law_252 : decode kc_W_law 252 = .ok (.aload_n 0, 1) := by decide +kernel
theorem kd_W_law_253 : decode kc_W_law 253 = .ok (.iload 4, 2) := by decide +kernel
theorem kd_W_law_255 : decode kc_W_law 255 = .ok (.iconst 3, 1) := by decide +kernel
theorem kd_W_law_256 : decode kc_W_law 256 = .ok (.iadd, 1) := by decide +kernel
theorem kd_W_law_257 : decode kc_W_law 257 = .ok (.iaload, 1) := by decide +kernel
theorem kd_W_law_258 : decode kc_W_law 258 = .ok (.aload_n 0, 1) := by decide +kernel
theorem kd_W_law_259 : decode kc_W_law 259 = .ok (.iload 4, 2) := by decide +kernel
theorem kd_W_law_261 : decode kc_W_law 261 = .ok (.iconst 4, 1) := by decide +kernel
theorem kd_W_law_262 : decode kc_W_law 262 = .ok (.iadd, 1) := by decide +kernel
theorem kd_W_law_263 : decode kc_W_law 263 = .ok (.iaload, 1) := by decide +kernel
theorem kd_W_law_264 : decode kc_W_law 264 = .ok (.invokevirtual 120, 3) := by decide +kernel
theorem kd_W_law_267 : decode kc_W_law 267 = .ok (.istore 6, 2) := by decide +kernel
theorem kd_W_law_269 : decode kc_W_law 269 = .ok (.aload_n 2, 1) := by decide +kernel
theorem kd_W_law_270 : decode kc_W_law 270 = .ok (.invokevirtual 113, 3) := by decide +kernel
theorem kd_W_law_273 : decode kc_W_law 273 = .ok (.iload 5, 2) := by decide +kernel
theorem kd_W_law_275 : decode kc_W_law 275 = .ok (.if_icmp .eq 5, 3) := by decide +kernel
theorem kd_W_law_278 : decode kc_W_law 278 = .ok (.iconst 0, 1) := by decide +kernel
theorem kd_W_law_279 : decode kc_W_law 279 = .ok (.ireturn, 1) := by decide +kernel
theorem kd_W_law_280 : decode kc_W_law 280 = .ok (.iload 5, 2) := by decide +kernel
theorem kd_W_law_282 : decode kc_W_law 282 = .ok (.ifCond .ne 15, 3) := by decide +kernel
theorem kd_W_law_285 : decode kc_W_law 285 = .ok (.aload_n 3, 1) := by decide +kernel
theorem kd_W_law_286 : decode kc_W_law 286 = .ok (.iconst 0, 1) := by decide +kernel
theorem kd_W_law_287 : decode kc_W_law 287 = .ok (.laload, 1) := by decide +kernel
theorem kd_W_law_288 : decode kc_W_law 288 = .ok (.iload 6, 2) := by decide +kernel
theorem kd_W_law_290 : decode kc_W_law 290 = .ok (.i2l, 1) := by decide +kernel
theorem kd_W_law_291 : decode kc_W_law 291 = .ok (.lcmp, 1) := by decide +kernel
theorem kd_W_law_292 : decode kc_W_law 292 = .ok (.ifCond .eq 5, 3) := by decide +kernel
theorem kd_W_law_295 : decode kc_W_law 295 = .ok (.iconst 0, 1) := by decide +kernel
theorem kd_W_law_296 : decode kc_W_law 296 = .ok (.ireturn, 1) := by decide +kernel
theorem kd_W_law_297 : decode kc_W_law 297 = .ok (.goto 1716, 3) := by decide +kernel
theorem kd_W_law_300 : decode kc_W_law 300 = .ok (.aload_n 1, 1) := by decide +kernel
theorem kd_W_law_301 : decode kc_W_law 301 = .ok (.aload_n 0, 1) := by decide +kernel
theorem kd_W_law_302 : decode kc_W_law 302 = .ok (.iload 4, 2) := by decide +kernel
theorem kd_W_law_304 : decode kc_W_law 304 = .ok (.iconst 1, 1) := by decide +kernel
theorem kd_W_law_305 : decode kc_W_law 305 = .ok (.iadd, 1) := by decide +kernel
theorem kd_W_law_306 : decode kc_W_law 306 = .ok (.iaload, 1) := by decide +kernel
theorem kd_W_law_307 : decode kc_W_law 307 = .ok (.aload_n 0, 1) := by decide +kernel
theorem kd_W_law_308 : decode kc_W_law 308 = .ok (.iload 4, 2) := by decide +kernel
theorem kd_W_law_310 : decode kc_W_law 310 = .ok (.iconst 2, 1) := by decide +kernel
theorem kd_W_law_311 : decode kc_W_law 311 = .ok (.iadd, 1) := by decide +kernel
theorem kd_W_law_312 : decode kc_W_law 312 = .ok (.iaload, 1) := by decide +kernel
theorem kd_W_law_313 : decode kc_W_law 313 = .ok (.aload_n 0, 1) := by decide +kernel
theorem kd_W_law_314 : decode kc_W_law 314 = .ok (.iload 4, 2) := by decide +kernel
theorem kd_W_law_316 : decode kc_W_law 316 = .ok (.iconst 3, 1) := by decide +kernel
theorem kd_W_law_317 : decode kc_W_law 317 = .ok (.iadd, 1) := by decide +kernel
theorem kd_W_law_318 : decode kc_W_law 318 = .ok (.iaload, 1) := by decide +kernel
theorem kd_W_law_319 : decode kc_W_law 319 = .ok (.aload_n 3, 1) := by decide +kernel
theorem kd_W_law_320 : decode kc_W_law 320 = .ok (.invokestatic 121, 3) := by decide +kernel
theorem kd_W_law_323 : decode kc_W_law 323 = .ok (.istore 5, 2) := by decide +kernel
theorem kd_W_law_325 : decode kc_W_law 325 = .ok (.aload_n 2, 1) := by decide +kernel
theorem kd_W_law_326 : decode kc_W_law 326 = .ok (.aload_n 0, 1) := by decide +kernel
theorem kd_W_law_327 : decode kc_W_law 327 = .ok (.iload 4, 2) := by decide +kernel
theorem kd_W_law_329 : decode kc_W_law 329 = .ok (.iconst 1, 1) := by decide +kernel
theorem kd_W_law_330 : decode kc_W_law 330 = .ok (.iadd, 1) := by decide +kernel
theorem kd_W_law_331 : decode kc_W_law 331 = .ok (.iaload, 1) := by decide +kernel
theorem kd_W_law_332 : decode kc_W_law 332 = .ok (.aload_n 0, 1) := by decide +kernel
theorem kd_W_law_333 : decode kc_W_law 333 = .ok (.iload 4, 2) := by decide +kernel
theorem kd_W_law_335 : decode kc_W_law 335 = .ok (.iconst 2, 1) := by decide +kernel
theorem kd_W_law_336 : decode kc_W_law 336 = .ok (.iadd, 1) := by decide +kernel
theorem kd_W_law_337 : decode kc_W_law 337 = .ok (.iaload, 1) := by decide +kernel
theorem kd_W_law_338 : decode kc_W_law 338 = .ok (.aload_n 0, 1) := by decide +kernel
theorem kd_W_law_339 : decode kc_W_law 339 = .ok (.iload 4, 2) := by decide +kernel
theorem kd_W_law_341 : decode kc_W_law 341 = .ok (.iconst 3, 1) := by decide +kernel
theorem kd_W_law_342 : decode kc_W_law 342 = .ok (.iadd, 1) := by decide +kernel
theorem kd_W_law_343 : decode kc_W_law 343 = .ok (.iaload, 1) := by decide +kernel
theorem kd_W_law_344 : decode kc_W_law 344 = .ok (.invokevirtual 124, 3) := by decide +kernel
theorem kd_W_law_347 : decode kc_W_law 347 = .ok (.istore 6, 2) := by decide +kernel
theorem kd_W_law_349 : decode kc_W_law 349 = .ok (.aload_n 2, 1) := by decide +kernel
theorem kd_W_law_350 : decode kc_W_law 350 = .ok (.invokevirtual 113, 3) := by decide +kernel
theorem kd_W_law_353 : decode kc_W_law 353 = .ok (.iload 5, 2) := by decide +kernel
theorem kd_W_law_355 : decode kc_W_law 355 = .ok (.if_icmp .eq 5, 3) := by decide +kernel
theorem kd_W_law_358 : decode kc_W_law 358 = .ok (.iconst 0, 1) := by decide +kernel
theorem kd_W_law_359 : decode kc_W_law 359 = .ok (.ireturn, 1) := by decide +kernel
theorem kd_W_law_360 : decode kc_W_law 360 = .ok (.iload 5, 2) := by decide +kernel
theorem kd_W_law_362 : decode kc_W_law 362 = .ok (.ifCond .ne 15, 3) := by decide +kernel
theorem kd_W_law_365 : decode kc_W_law 365 = .ok (.aload_n 3, 1) := by decide +kernel
theorem kd_W_law_366 : decode kc_W_law 366 = .ok (.iconst 0, 1) := by decide +kernel
theorem kd_W_law_367 : decode kc_W_law 367 = .ok (.laload, 1) := by decide +kernel
theorem kd_W_law_368 : decode kc_W_law 368 = .ok (.iload 6, 2) := by decide +kernel
theorem kd_W_law_370 : decode kc_W_law 370 = .ok (.i2l, 1) := by decide +kernel
theorem kd_W_law_371 : decode kc_W_law 371 = .ok (.lcmp, 1) := by decide +kernel
theorem kd_W_law_372 : decode kc_W_law 372 = .ok (.ifCond .eq 5, 3) := by decide +kernel
theorem kd_W_law_375 : decode kc_W_law 375 = .ok (.iconst 0, 1) := by decide +kernel
theorem kd_W_law_376 : decode kc_W_law 376 = .ok (.ireturn, 1) := by decide +kernel
theorem kd_W_law_377 : decode kc_W_law 377 = .ok (.goto 1636, 3) := by decide +kernel
theorem kd_W_law_380 : decode kc_W_law 380 = .ok (.aload_n 1, 1) := by decide +kernel
theorem kd_W_law_381 : decode kc_W_law 381 = .ok (.aload_n 0, 1) := by decide +kernel
theorem kd_W_law_382 : decode kc_W_law 382 = .ok (.iload 4, 2) := by decide +kernel
theorem kd_W_law_384 : decode kc_W_law 384 = .ok (.iconst 1, 1) := by decide +kernel
theorem kd_W_law_385 : decode kc_W_law 385 = .ok (.iadd, 1) := by decide +kernel
theorem kd_W_law_386 : decode kc_W_law 386 = .ok (.iaload, 1) := by decide +kernel
theorem kd_W_law_387 : decode kc_W_law 387 = .ok (.aload_n 3, 1) := by decide +kernel
theorem kd_W_law_388 : decode kc_W_law 388 = .ok (.invokestatic 125, 3) := by decide +kernel
theorem kd_W_law_391 : decode kc_W_law 391 = .ok (.istore 5, 2) := by decide +kernel
theorem kd_W_law_393 : decode kc_W_law 393 = .ok (.aload_n 2, 1) := by decide +kernel
theorem kd_W_law_394 : decode kc_W_law 394 = .ok (.aload_n 0, 1) := by decide +kernel
theorem kd_W_law_395 : decode kc_W_law 395 = .ok (.iload 4, 2) := by decide +kernel
theorem kd_W_law_397 : decode kc_W_law 397 = .ok (.iconst 1, 1) := by decide +kernel
theorem kd_W_law_398 : decode kc_W_law 398 = .ok (.iadd, 1) := by decide +kernel
theorem kd_W_law_399 : decode kc_W_law 399 = .ok (.iaload, 1) := by decide +kernel
theorem kd_W_law_400 : decode kc_W_law 400 = .ok (.invokevirtual 127, 3) := by decide +kernel
theorem kd_W_law_403 : decode kc_W_law 403 = .ok (.istore 6, 2) := by decide +kernel
theorem kd_W_law_405 : decode kc_W_law 405 = .ok (.aload_n 2, 1) := by decide +kernel
theorem kd_W_law_406 : decode kc_W_law 406 = .ok (.invokevirtual 113, 3) := by decide +kernel
theorem kd_W_law_409 : decode kc_W_law 409 = .ok (.iload 5, 2) := by decide +kernel
theorem kd_W_law_411 : decode kc_W_law 411 = .ok (.if_icmp .eq 5, 3) := by decide +kernel
theorem kd_W_law_414 : decode kc_W_law 414 = .ok (.iconst 0, 1) := by decide +kernel
theorem kd_W_law_415 : decode kc_W_law 415 = .ok (.ireturn, 1) := by decide +kernel
theorem kd_W_law_416 : decode kc_W_law 416 = .ok (.iload 5, 2) := by decide +kernel
theorem kd_W_law_418 : decode kc_W_law 418 = .ok (.ifCond .ne 15, 3) := by decide +kernel
theorem kd_W_law_421 : decode kc_W_law 421 = .ok (.aload_n 3, 1) := by decide +kernel
theorem kd_W_law_422 : decode kc_W_law 422 = .ok (.iconst 0, 1) := by decide +kernel
theorem kd_W_law_423 : decode kc_W_law 423 = .ok (.laload, 1) := by decide +kernel
theorem kd_W_law_424 : decode kc_W_law 424 = .ok (.iload 6, 2) := by decide +kernel
theorem kd_W_law_426 : decode kc_W_law 426 = .ok (.i2l, 1) := by decide +kernel
theorem kd_W_law_427 : decode kc_W_law 427 = .ok (.lcmp, 1) := by decide +kernel
theorem kd_W_law_428 : decode kc_W_law 428 = .ok (.ifCond .eq 5, 3) := by decide +kernel
theorem kd_W_law_431 : decode kc_W_law 431 = .ok (.iconst 0, 1) := by decide +kernel
theorem kd_W_law_432 : decode kc_W_law 432 = .ok (.ireturn, 1) := by decide +kernel
theorem kd_W_law_433 : decode kc_W_law 433 = .ok (.goto 1580, 3) := by decide +kernel
theorem kd_W_law_436 : decode kc_W_law 436 = .ok (.aload_n 1, 1) := by decide +kernel
theorem kd_W_law_437 : decode kc_W_law 437 = .ok (.aload_n 0, 1) := by decide +kernel
theorem kd_W_law_438 : decode kc_W_law 438 = .ok (.iload 4, 2) := by decide +kernel
theorem kd_W_law_440 : decode kc_W_law 440 = .ok (.iconst 1, 1) := by decide +kernel
theorem kd_W_law_441 : decode kc_W_law 441 = .ok (.iadd, 1) := by decide +kernel
theorem kd_W_law_442 : decode kc_W_law 442 = .ok (.iaload, 1) := by decide +kernel
theorem kd_W_law_443 : decode kc_W_law 443 = .ok (.aload_n 0, 1) := by decide +kernel
theorem kd_W_law_444 : decode kc_W_law 444 = .ok (.iload 4, 2) := by decide +kernel
theorem kd_W_law_446 : decode kc_W_law 446 = .ok (.iconst 2, 1) := by decide +kernel
theorem kd_W_law_447 : decode kc_W_law 447 = .ok (.iadd, 1) := by decide +kernel
theorem kd_W_law_448 : decode kc_W_law 448 = .ok (.iaload, 1) := by decide +kernel
theorem kd_W_law_449 : decode kc_W_law 449 = .ok (.aload_n 0, 1) := by decide +kernel
theorem kd_W_law_450 : decode kc_W_law 450 = .ok (.iload 4, 2) := by decide +kernel
theorem kd_W_law_452 : decode kc_W_law 452 = .ok (.iconst 3, 1) := by decide +kernel
theorem kd_W_law_453 : decode kc_W_law 453 = .ok (.iadd, 1) := by decide +kernel
theorem kd_W_law_454 : decode kc_W_law 454 = .ok (.iaload, 1) := by decide +kernel
theorem kd_W_law_455 : decode kc_W_law 455 = .ok (.aload_n 0, 1) := by decide +kernel
theorem kd_W_law_456 : decode kc_W_law 456 = .ok (.iload 4, 2) := by decide +kernel
theorem kd_W_law_458 : decode kc_W_law 458 = .ok (.iconst 4, 1) := by decide +kernel
theorem kd_W_law_459 : decode kc_W_law 459 = .ok (.iadd, 1) := by decide +kernel
theorem kd_W_law_460 : decode kc_W_law 460 = .ok (.iaload, 1) := by decide +kernel
theorem kd_W_law_461 : decode kc_W_law 461 = .ok (.aload_n 0, 1) := by decide +kernel
theorem kd_W_law_462 : decode kc_W_law 462 = .ok (.iload 4, 2) := by decide +kernel
theorem kd_W_law_464 : decode kc_W_law 464 = .ok (.iconst 5, 1) := by decide +kernel
theorem kd_W_law_465 : decode kc_W_law 465 = .ok (.iadd, 1) := by decide +kernel
theorem kd_W_law_466 : decode kc_W_law 466 = .ok (.iaload, 1) := by decide +kernel
theorem kd_W_law_467 : decode kc_W_law 467 = .ok (.aload_n 0, 1) := by decide +kernel
theorem kd_W_law_468 : decode kc_W_law 468 = .ok (.iload 4, 2) := by decide +kernel
theorem kd_W_law_470 : decode kc_W_law 470 = .ok (.bipush 6, 2) := by decide +kernel
theorem kd_W_law_472 : decode kc_W_law 472 = .ok (.iadd, 1) := by decide +kernel
theorem kd_W_law_473 : decode kc_W_law 473 = .ok (.iaload, 1) := by decide +kernel
theorem kd_W_law_474 : decode kc_W_law 474 = .ok (.aload_n 0, 1) := by decide +kernel
theorem kd_W_law_475 : decode kc_W_law 475 = .ok (.iload 4, 2) := by decide +kernel
theorem kd_W_law_477 : decode kc_W_law 477 = .ok (.bipush 7, 2) := by decide +kernel
