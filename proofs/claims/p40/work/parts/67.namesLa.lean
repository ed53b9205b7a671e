-- printed rows that the walks use
theorem dL_isLife_0 : decode cL_isLife 0 = .ok (.aload_n 0, 1) := by decide +kernel
theorem dL_isLife_1 : decode cL_isLife 1 = .ok (.invokevirtual 147, 3) := by decide +kernel
theorem dL_isLife_10 : decode cL_isLife 10 = .ok (.iconst 1, 1) := by decide +kernel
theorem dL_isLife_101 : decode cL_isLife 101 = .ok (.aload 5, 2) := by decide +kernel
theorem dL_isLife_103 : decode cL_isLife 103 = .ok (.iload 6, 2) := by decide +kernel
theorem dL_isLife_105 : decode cL_isLife 105 = .ok (.iaload, 1) := by decide +kernel
theorem dL_isLife_106 : decode cL_isLife 106 = .ok (.aload 5, 2) := by decide +kernel
theorem dL_isLife_108 : decode cL_isLife 108 = .ok (.iload 6, 2) := by decide +kernel
theorem dL_isLife_11 : decode cL_isLife 11 = .ok (.aload_n 1, 1) := by decide +kernel
theorem dL_isLife_110 : decode cL_isLife 110 = .ok (.iconst 1, 1) := by decide +kernel
theorem dL_isLife_111 : decode cL_isLife 111 = .ok (.isub, 1) := by decide +kernel
theorem dL_isLife_112 : decode cL_isLife 112 = .ok (.iaload, 1) := by decide +kernel
theorem dL_isLife_113 : decode cL_isLife 113 = .ok (.aload_n 1, 1) := by decide +kernel
theorem dL_isLife_114 : decode cL_isLife 114 = .ok (.iconst 1, 1) := by decide +kernel
theorem dL_isLife_115 : decode cL_isLife 115 = .ok (.aload 5, 2) := by decide +kernel
theorem dL_isLife_117 : decode cL_isLife 117 = .ok (.iload 6, 2) := by decide +kernel
theorem dL_isLife_119 : decode cL_isLife 119 = .ok (.iconst 1, 1) := by decide +kernel
theorem dL_isLife_12 : decode cL_isLife 12 = .ok (.aload_n 1, 1) := by decide +kernel
theorem dL_isLife_120 : decode cL_isLife 120 = .ok (.isub, 1) := by decide +kernel
theorem dL_isLife_121 : decode cL_isLife 121 = .ok (.iaload, 1) := by decide +kernel
theorem dL_isLife_122 : decode cL_isLife 122 = .ok (.iconst 4, 1) := by decide +kernel
theorem dL_isLife_123 : decode cL_isLife 123 = .ok (.idiv, 1) := by decide +kernel
theorem dL_isLife_124 : decode cL_isLife 124 = .ok (.iadd, 1) := by decide +kernel
theorem dL_isLife_125 : decode cL_isLife 125 = .ok (.invokestatic 13, 3) := by decide +kernel
theorem dL_isLife_128 : decode cL_isLife 128 = .ok (.isub, 1) := by decide +kernel
theorem dL_isLife_129 : decode cL_isLife 129 = .ok (.invokestatic 232, 3) := by decide +kernel
theorem dL_isLife_13 : decode cL_isLife 13 = .ok (.iconst 3, 1) := by decide +kernel
theorem dL_isLife_132 : decode cL_isLife 132 = .ok (.iastore, 1) := by decide +kernel
theorem dL_isLife_133 : decode cL_isLife 133 = .ok (.aload_n 0, 1) := by decide +kernel
theorem dL_isLife_134 : decode cL_isLife 134 = .ok (.aload 5, 2) := by decide +kernel
theorem dL_isLife_136 : decode cL_isLife 136 = .ok (.iload 6, 2) := by decide +kernel
theorem dL_isLife_138 : decode cL_isLife 138 = .ok (.iaload, 1) := by decide +kernel
theorem dL_isLife_139 : decode cL_isLife 139 = .ok (.invokevirtual 69, 3) := by decide +kernel
theorem dL_isLife_14 : decode cL_isLife 14 = .ok (.invokestatic 13, 3) := by decide +kernel
theorem dL_isLife_142 : decode cL_isLife 142 = .ok (.iload 6, 2) := by decide +kernel
theorem dL_isLife_144 : decode cL_isLife 144 = .ok (.iconst 1, 1) := by decide +kernel
theorem dL_isLife_145 : decode cL_isLife 145 = .ok (.iadd, 1) := by decide +kernel
theorem dL_isLife_146 : decode cL_isLife 146 = .ok (.if_icmp .eq 5, 3) := by decide +kernel
theorem dL_isLife_151 : decode cL_isLife 151 = .ok (.iinc 6 1, 3) := by decide +kernel
theorem dL_isLife_154 : decode cL_isLife 154 = .ok (.goto (-112), 3) := by decide +kernel
theorem dL_isLife_157 : decode cL_isLife 157 = .ok (.aload_n 1, 1) := by decide +kernel
theorem dL_isLife_158 : decode cL_isLife 158 = .ok (.invokestatic 173, 3) := by decide +kernel
theorem dL_isLife_161 : decode cL_isLife 161 = .ok (.istore 6, 2) := by decide +kernel
theorem dL_isLife_163 : decode cL_isLife 163 = .ok (.ldc2_w 177, 3) := by decide +kernel
theorem dL_isLife_166 : decode cL_isLife 166 = .ok (.iload 6, 2) := by decide +kernel
theorem dL_isLife_168 : decode cL_isLife 168 = .ok (.i2l, 1) := by decide +kernel
theorem dL_isLife_169 : decode cL_isLife 169 = .ok (.ladd, 1) := by decide +kernel
theorem dL_isLife_17 : decode cL_isLife 17 = .ok (.ifCond .ne 8, 3) := by decide +kernel
theorem dL_isLife_170 : decode cL_isLife 170 = .ok (.lstore 7, 2) := by decide +kernel
theorem dL_isLife_172 : decode cL_isLife 172 = .ok (.aload_n 1, 1) := by decide +kernel
theorem dL_isLife_173 : decode cL_isLife 173 = .ok (.sipush 10001, 3) := by decide +kernel
theorem dL_isLife_176 : decode cL_isLife 176 = .ok (.invokestatic 13, 3) := by decide +kernel
theorem dL_isLife_179 : decode cL_isLife 179 = .ok (.i2l, 1) := by decide +kernel
theorem dL_isLife_180 : decode cL_isLife 180 = .ok (.lstore 9, 2) := by decide +kernel
theorem dL_isLife_182 : decode cL_isLife 182 = .ok (.iload 4, 2) := by decide +kernel
theorem dL_isLife_184 : decode cL_isLife 184 = .ok (.iconst 1, 1) := by decide +kernel
theorem dL_isLife_185 : decode cL_isLife 185 = .ok (.isub, 1) := by decide +kernel
theorem dL_isLife_186 : decode cL_isLife 186 = .ok (.istore 11, 2) := by decide +kernel
theorem dL_isLife_188 : decode cL_isLife 188 = .ok (.aload_n 0, 1) := by decide +kernel
theorem dL_isLife_189 : decode cL_isLife 189 = .ok (.bipush 14, 2) := by decide +kernel
theorem dL_isLife_191 : decode cL_isLife 191 = .ok (.lload 9, 2) := by decide +kernel
theorem dL_isLife_193 : decode cL_isLife 193 = .ok (.iload 11, 2) := by decide +kernel
theorem dL_isLife_195 : decode cL_isLife 195 = .ok (.iload 6, 2) := by decide +kernel
theorem dL_isLife_197 : decode cL_isLife 197 = .ok (.invokestatic 161, 3) := by decide +kernel
theorem dL_isLife_20 : decode cL_isLife 20 = .ok (.bipush 30, 2) := by decide +kernel
theorem dL_isLife_200 : decode cL_isLife 200 = .ok (.lload 9, 2) := by decide +kernel
theorem dL_isLife_202 : decode cL_isLife 202 = .ok (.lcmp, 1) := by decide +kernel
theorem dL_isLife_203 : decode cL_isLife 203 = .ok (.ifCond .ne 59, 3) := by decide +kernel
theorem dL_isLife_206 : decode cL_isLife 206 = .ok (.aload_n 0, 1) := by decide +kernel
theorem dL_isLife_207 : decode cL_isLife 207 = .ok (.bipush 15, 2) := by decide +kernel
theorem dL_isLife_209 : decode cL_isLife 209 = .ok (.lload 9, 2) := by decide +kernel
theorem dL_isLife_211 : decode cL_isLife 211 = .ok (.iload 11, 2) := by decide +kernel
theorem dL_isLife_213 : decode cL_isLife 213 = .ok (.iload 6, 2) := by decide +kernel
theorem dL_isLife_215 : decode cL_isLife 215 = .ok (.invokestatic 161, 3) := by decide +kernel
theorem dL_isLife_218 : decode cL_isLife 218 = .ok (.lload 9, 2) := by decide +kernel
theorem dL_isLife_22 : decode cL_isLife 22 = .ok (.goto 5, 3) := by decide +kernel
theorem dL_isLife_220 : decode cL_isLife 220 = .ok (.ldc2_w 177, 3) := by decide +kernel
theorem dL_isLife_223 : decode cL_isLife 223 = .ok (.lmul, 1) := by decide +kernel
theorem dL_isLife_224 : decode cL_isLife 224 = .ok (.lload 7, 2) := by decide +kernel
theorem dL_isLife_226 : decode cL_isLife 226 = .ok (.iload_n 2, 1) := by decide +kernel
theorem dL_isLife_227 : decode cL_isLife 227 = .ok (.invokestatic 158, 3) := by decide +kernel
theorem dL_isLife_230 : decode cL_isLife 230 = .ok (.lcmp, 1) := by decide +kernel
theorem dL_isLife_231 : decode cL_isLife 231 = .ok (.ifCond .ne 31, 3) := by decide +kernel
theorem dL_isLife_234 : decode cL_isLife 234 = .ok (.aload_n 0, 1) := by decide +kernel
theorem dL_isLife_235 : decode cL_isLife 235 = .ok (.bipush 16, 2) := by decide +kernel
theorem dL_isLife_237 : decode cL_isLife 237 = .ok (.lload 9, 2) := by decide +kernel
theorem dL_isLife_239 : decode cL_isLife 239 = .ok (.iload 11, 2) := by decide +kernel
theorem dL_isLife_241 : decode cL_isLife 241 = .ok (.iload 6, 2) := by decide +kernel
theorem dL_isLife_243 : decode cL_isLife 243 = .ok (.invokestatic 161, 3) := by decide +kernel
theorem dL_isLife_246 : decode cL_isLife 246 = .ok (.lload 9, 2) := by decide +kernel
theorem dL_isLife_248 : decode cL_isLife 248 = .ok (.ldc2_w 177, 3) := by decide +kernel
theorem dL_isLife_25 : decode cL_isLife 25 = .ok (.bipush 6, 2) := by decide +kernel
theorem dL_isLife_251 : decode cL_isLife 251 = .ok (.lmul, 1) := by decide +kernel
theorem dL_isLife_252 : decode cL_isLife 252 = .ok (.lload 7, 2) := by decide +kernel
theorem dL_isLife_254 : decode cL_isLife 254 = .ok (.iload_n 2, 1) := by decide +kernel
theorem dL_isLife_255 : decode cL_isLife 255 = .ok (.invokestatic 158, 3) := by decide +kernel
theorem dL_isLife_258 : decode cL_isLife 258 = .ok (.lcmp, 1) := by decide +kernel
theorem dL_isLife_259 : decode cL_isLife 259 = .ok (.ifCond .eq 5, 3) := by decide +kernel
theorem dL_isLife_264 : decode cL_isLife 264 = .ok (.iload 4, 2) := by decide +kernel
theorem dL_isLife_266 : decode cL_isLife 266 = .ok (.iconst 1, 1) := by decide +kernel
theorem dL_isLife_267 : decode cL_isLife 267 = .ok (.if_icmp .le 161, 3) := by decide +kernel
theorem dL_isLife_27 : decode cL_isLife 27 = .ok (.invokestatic 13, 3) := by decide +kernel
theorem dL_isLife_270 : decode cL_isLife 270 = .ok (.aload 5, 2) := by decide +kernel
theorem dL_isLife_272 : decode cL_isLife 272 = .ok (.iload 11, 2) := by decide +kernel
theorem dL_isLife_274 : decode cL_isLife 274 = .ok (.iconst 1, 1) := by decide +kernel
theorem dL_isLife_275 : decode cL_isLife 275 = .ok (.isub, 1) := by decide +kernel
theorem dL_isLife_276 : decode cL_isLife 276 = .ok (.iaload, 1) := by decide +kernel
theorem dL_isLife_277 : decode cL_isLife 277 = .ok (.i2l, 1) := by decide +kernel
theorem dL_isLife_278 : decode cL_isLife 278 = .ok (.lstore 12, 2) := by decide +kernel
theorem dL_isLife_280 : decode cL_isLife 280 = .ok (.aload 5, 2) := by decide +kernel
theorem dL_isLife_282 : decode cL_isLife 282 = .ok (.iload 11, 2) := by decide +kernel
theorem dL_isLife_284 : decode cL_isLife 284 = .ok (.iaload, 1) := by decide +kernel
theorem dL_isLife_285 : decode cL_isLife 285 = .ok (.i2l, 1) := by decide +kernel
theorem dL_isLife_286 : decode cL_isLife 286 = .ok (.lstore 14, 2) := by decide +kernel
theorem dL_isLife_288 : decode cL_isLife 288 = .ok (.lload 12, 2) := by decide +kernel
theorem dL_isLife_290 : decode cL_isLife 290 = .ok (.lload 7, 2) := by decide +kernel
theorem dL_isLife_292 : decode cL_isLife 292 = .ok (.lmul, 1) := by decide +kernel
theorem dL_isLife_293 : decode cL_isLife 293 = .ok (.lload 14, 2) := by decide +kernel
theorem dL_isLife_295 : decode cL_isLife 295 = .ok (.ldc2_w 177, 3) := by decide +kernel
theorem dL_isLife_298 : decode cL_isLife 298 = .ok (.lmul, 1) := by decide +kernel
theorem dL_isLife_299 : decode cL_isLife 299 = .ok (.ladd, 1) := by decide +kernel
theorem dL_isLife_30 : decode cL_isLife 30 = .ok (.iadd, 1) := by decide +kernel
theorem dL_isLife_300 : decode cL_isLife 300 = .ok (.lstore 16, 2) := by decide +kernel
theorem dL_isLife_302 : decode cL_isLife 302 = .ok (.lload 12, 2) := by decide +kernel
theorem dL_isLife_304 : decode cL_isLife 304 = .ok (.lload 14, 2) := by decide +kernel
theorem dL_isLife_306 : decode cL_isLife 306 = .ok (.lsub, 1) := by decide +kernel
theorem dL_isLife_307 : decode cL_isLife 307 = .ok (.lload 7, 2) := by decide +kernel
theorem dL_isLife_309 : decode cL_isLife 309 = .ok (.lmul, 1) := by decide +kernel
theorem dL_isLife_31 : decode cL_isLife 31 = .ok (.istore 4, 2) := by decide +kernel
theorem dL_isLife_310 : decode cL_isLife 310 = .ok (.lload 14, 2) := by decide +kernel
theorem dL_isLife_312 : decode cL_isLife 312 = .ok (.ldc2_w 177, 3) := by decide +kernel
theorem dL_isLife_315 : decode cL_isLife 315 = .ok (.lmul, 1) := by decide +kernel
theorem dL_isLife_316 : decode cL_isLife 316 = .ok (.ladd, 1) := by decide +kernel
theorem dL_isLife_317 : decode cL_isLife 317 = .ok (.lstore 18, 2) := by decide +kernel
theorem dL_isLife_319 : decode cL_isLife 319 = .ok (.aload_n 0, 1) := by decide +kernel
theorem dL_isLife_320 : decode cL_isLife 320 = .ok (.bipush 14, 2) := by decide +kernel
theorem dL_isLife_322 : decode cL_isLife 322 = .ok (.lload 9, 2) := by decide +kernel
theorem dL_isLife_324 : decode cL_isLife 324 = .ok (.iload 11, 2) := by decide +kernel
theorem dL_isLife_326 : decode cL_isLife 326 = .ok (.iconst 1, 1) := by decide +kernel
theorem dL_isLife_327 : decode cL_isLife 327 = .ok (.isub, 1) := by decide +kernel
theorem dL_isLife_328 : decode cL_isLife 328 = .ok (.iload 6, 2) := by decide +kernel
theorem dL_isLife_33 : decode cL_isLife 33 = .ok (.iload 4, 2) := by decide +kernel
theorem dL_isLife_330 : decode cL_isLife 330 = .ok (.invokestatic 161, 3) := by decide +kernel
theorem dL_isLife_333 : decode cL_isLife 333 = .ok (.lload 9, 2) := by decide +kernel
theorem dL_isLife_335 : decode cL_isLife 335 = .ok (.lload 16, 2) := by decide +kernel
theorem dL_isLife_337 : decode cL_isLife 337 = .ok (.lmul, 1) := by decide +kernel
theorem dL_isLife_338 : decode cL_isLife 338 = .ok (.lload 12, 2) := by decide +kernel
theorem dL_isLife_340 : decode cL_isLife 340 = .ok (.lload 7, 2) := by decide +kernel
theorem dL_isLife_342 : decode cL_isLife 342 = .ok (.lmul, 1) := by decide +kernel
theorem dL_isLife_343 : decode cL_isLife 343 = .ok (.iload_n 2, 1) := by decide +kernel
theorem dL_isLife_344 : decode cL_isLife 344 = .ok (.invokestatic 158, 3) := by decide +kernel
theorem dL_isLife_347 : decode cL_isLife 347 = .ok (.lcmp, 1) := by decide +kernel
theorem dL_isLife_348 : decode cL_isLife 348 = .ok (.ifCond .ne 78, 3) := by decide +kernel
theorem dL_isLife_35 : decode cL_isLife 35 = .ok (.newarray .int, 2) := by decide +kernel
theorem dL_isLife_351 : decode cL_isLife 351 = .ok (.aload_n 0, 1) := by decide +kernel
theorem dL_isLife_352 : decode cL_isLife 352 = .ok (.bipush 15, 2) := by decide +kernel
theorem dL_isLife_354 : decode cL_isLife 354 = .ok (.lload 9, 2) := by decide +kernel
theorem dL_isLife_356 : decode cL_isLife 356 = .ok (.iload 11, 2) := by decide +kernel
theorem dL_isLife_358 : decode cL_isLife 358 = .ok (.iconst 1, 1) := by decide +kernel
theorem dL_isLife_359 : decode cL_isLife 359 = .ok (.isub, 1) := by decide +kernel
theorem dL_isLife_360 : decode cL_isLife 360 = .ok (.iload 6, 2) := by decide +kernel
theorem dL_isLife_362 : decode cL_isLife 362 = .ok (.invokestatic 161, 3) := by decide +kernel
theorem dL_isLife_365 : decode cL_isLife 365 = .ok (.lload 9, 2) := by decide +kernel
theorem dL_isLife_367 : decode cL_isLife 367 = .ok (.lload 18, 2) := by decide +kernel
theorem dL_isLife_369 : decode cL_isLife 369 = .ok (.lmul, 1) := by decide +kernel
theorem dL_isLife_37 : decode cL_isLife 37 = .ok (.astore 5, 2) := by decide +kernel
theorem dL_isLife_370 : decode cL_isLife 370 = .ok (.ldc2_w 177, 3) := by decide +kernel
theorem dL_isLife_373 : decode cL_isLife 373 = .ok (.lmul, 1) := by decide +kernel
theorem dL_isLife_374 : decode cL_isLife 374 = .ok (.lload 12, 2) := by decide +kernel
theorem dL_isLife_376 : decode cL_isLife 376 = .ok (.lload 7, 2) := by decide +kernel
theorem dL_isLife_378 : decode cL_isLife 378 = .ok (.lmul, 1) := by decide +kernel
theorem dL_isLife_379 : decode cL_isLife 379 = .ok (.lload 7, 2) := by decide +kernel
theorem dL_isLife_381 : decode cL_isLife 381 = .ok (.lmul, 1) := by decide +kernel
theorem dL_isLife_382 : decode cL_isLife 382 = .ok (.iload_n 2, 1) := by decide +kernel
theorem dL_isLife_383 : decode cL_isLife 383 = .ok (.invokestatic 158, 3) := by decide +kernel
theorem dL_isLife_386 : decode cL_isLife 386 = .ok (.lcmp, 1) := by decide +kernel
theorem dL_isLife_387 : decode cL_isLife 387 = .ok (.ifCond .ne 39, 3) := by decide +kernel
theorem dL_isLife_39 : decode cL_isLife 39 = .ok (.iconst 0, 1) := by decide +kernel
theorem dL_isLife_390 : decode cL_isLife 390 = .ok (.aload_n 0, 1) := by decide +kernel
theorem dL_isLife_391 : decode cL_isLife 391 = .ok (.bipush 16, 2) := by decide +kernel
theorem dL_isLife_393 : decode cL_isLife 393 = .ok (.lload 9, 2) := by decide +kernel
theorem dL_isLife_395 : decode cL_isLife 395 = .ok (.iload 11, 2) := by decide +kernel
theorem dL_isLife_397 : decode cL_isLife 397 = .ok (.iconst 1, 1) := by decide +kernel
theorem dL_isLife_398 : decode cL_isLife 398 = .ok (.isub, 1) := by decide +kernel
theorem dL_isLife_399 : decode cL_isLife 399 = .ok (.iload 6, 2) := by decide +kernel
theorem dL_isLife_4 : decode cL_isLife 4 = .ok (.istore_n 2, 1) := by decide +kernel
theorem dL_isLife_40 : decode cL_isLife 40 = .ok (.istore 6, 2) := by decide +kernel
theorem dL_isLife_401 : decode cL_isLife 401 = .ok (.invokestatic 161, 3) := by decide +kernel
theorem dL_isLife_404 : decode cL_isLife 404 = .ok (.lload 9, 2) := by decide +kernel
theorem dL_isLife_406 : decode cL_isLife 406 = .ok (.lload 18, 2) := by decide +kernel
theorem dL_isLife_408 : decode cL_isLife 408 = .ok (.lmul, 1) := by decide +kernel
theorem dL_isLife_409 : decode cL_isLife 409 = .ok (.ldc2_w 177, 3) := by decide +kernel
theorem dL_isLife_412 : decode cL_isLife 412 = .ok (.lmul, 1) := by decide +kernel
theorem dL_isLife_413 : decode cL_isLife 413 = .ok (.lload 16, 2) := by decide +kernel
theorem dL_isLife_415 : decode cL_isLife 415 = .ok (.lload 7, 2) := by decide +kernel
theorem dL_isLife_417 : decode cL_isLife 417 = .ok (.lmul, 1) := by decide +kernel
theorem dL_isLife_418 : decode cL_isLife 418 = .ok (.iload_n 2, 1) := by decide +kernel
theorem dL_isLife_419 : decode cL_isLife 419 = .ok (.invokestatic 158, 3) := by decide +kernel
theorem dL_isLife_42 : decode cL_isLife 42 = .ok (.iload 6, 2) := by decide +kernel
theorem dL_isLife_422 : decode cL_isLife 422 = .ok (.lcmp, 1) := by decide +kernel
theorem dL_isLife_423 : decode cL_isLife 423 = .ok (.ifCond .eq 5, 3) := by decide +kernel
theorem dL_isLife_428 : decode cL_isLife 428 = .ok (.aload_n 1, 1) := by decide +kernel
theorem dL_isLife_429 : decode cL_isLife 429 = .ok (.iload 4, 2) := by decide +kernel
theorem dL_isLife_431 : decode cL_isLife 431 = .ok (.invokestatic 13, 3) := by decide +kernel
theorem dL_isLife_434 : decode cL_isLife 434 = .ok (.istore 12, 2) := by decide +kernel
theorem dL_isLife_436 : decode cL_isLife 436 = .ok (.lconst 0, 1) := by decide +kernel
theorem dL_isLife_437 : decode cL_isLife 437 = .ok (.lstore 13, 2) := by decide +kernel
theorem dL_isLife_439 : decode cL_isLife 439 = .ok (.iload 12, 2) := by decide +kernel
theorem dL_isLife_44 : decode cL_isLife 44 = .ok (.iload 4, 2) := by decide +kernel
theorem dL_isLife_441 : decode cL_isLife 441 = .ok (.istore 15, 2) := by decide +kernel
theorem dL_isLife_443 : decode cL_isLife 443 = .ok (.iload 15, 2) := by decide +kernel
theorem dL_isLife_445 : decode cL_isLife 445 = .ok (.iload 4, 2) := by decide +kernel
theorem dL_isLife_447 : decode cL_isLife 447 = .ok (.if_icmp .ge 20, 3) := by decide +kernel
theorem dL_isLife_450 : decode cL_isLife 450 = .ok (.lload 13, 2) := by decide +kernel
theorem dL_isLife_452 : decode cL_isLife 452 = .ok (.aload 5, 2) := by decide +kernel
theorem dL_isLife_454 : decode cL_isLife 454 = .ok (.iload 15, 2) := by decide +kernel
theorem dL_isLife_456 : decode cL_isLife 456 = .ok (.iaload, 1) := by decide +kernel
theorem dL_isLife_457 : decode cL_isLife 457 = .ok (.i2l, 1) := by decide +kernel
theorem dL_isLife_458 : decode cL_isLife 458 = .ok (.ladd, 1) := by decide +kernel
theorem dL_isLife_459 : decode cL_isLife 459 = .ok (.lstore 13, 2) := by decide +kernel
theorem dL_isLife_46 : decode cL_isLife 46 = .ok (.if_icmp .ge 111, 3) := by decide +kernel
theorem dL_isLife_461 : decode cL_isLife 461 = .ok (.iinc 15 1, 3) := by decide +kernel
theorem dL_isLife_464 : decode cL_isLife 464 = .ok (.goto (-21), 3) := by decide +kernel
theorem dL_isLife_467 : decode cL_isLife 467 = .ok (.aload_n 0, 1) := by decide +kernel
theorem dL_isLife_468 : decode cL_isLife 468 = .ok (.bipush 14, 2) := by decide +kernel
theorem dL_isLife_470 : decode cL_isLife 470 = .ok (.lload 9, 2) := by decide +kernel
theorem dL_isLife_472 : decode cL_isLife 472 = .ok (.iload 12, 2) := by decide +kernel
theorem dL_isLife_474 : decode cL_isLife 474 = .ok (.iconst 0, 1) := by decide +kernel
theorem dL_isLife_475 : decode cL_isLife 475 = .ok (.invokestatic 161, 3) := by decide +kernel
theorem dL_isLife_478 : decode cL_isLife 478 = .ok (.lload 9, 2) := by decide +kernel
theorem dL_isLife_480 : decode cL_isLife 480 = .ok (.lload 13, 2) := by decide +kernel
theorem dL_isLife_482 : decode cL_isLife 482 = .ok (.lmul, 1) := by decide +kernel
theorem dL_isLife_483 : decode cL_isLife 483 = .ok (.aload 5, 2) := by decide +kernel
theorem dL_isLife_485 : decode cL_isLife 485 = .ok (.iload 12, 2) := by decide +kernel
theorem dL_isLife_487 : decode cL_isLife 487 = .ok (.iaload, 1) := by decide +kernel
theorem dL_isLife_488 : decode cL_isLife 488 = .ok (.i2l, 1) := by decide +kernel
theorem dL_isLife_489 : decode cL_isLife 489 = .ok (.iload_n 2, 1) := by decide +kernel
theorem dL_isLife_49 : decode cL_isLife 49 = .ok (.aload 5, 2) := by decide +kernel
theorem dL_isLife_490 : decode cL_isLife 490 = .ok (.invokestatic 158, 3) := by decide +kernel
theorem dL_isLife_493 : decode cL_isLife 493 = .ok (.lcmp, 1) := by decide +kernel
theorem dL_isLife_494 : decode cL_isLife 494 = .ok (.ifCond .ne 50, 3) := by decide +kernel
theorem dL_isLife_497 : decode cL_isLife 497 = .ok (.aload_n 0, 1) := by decide +kernel
theorem dL_isLife_498 : decode cL_isLife 498 = .ok (.bipush 15, 2) := by decide +kernel
theorem dL_isLife_5 : decode cL_isLife 5 = .ok (.aload_n 0, 1) := by decide +kernel
theorem dL_isLife_500 : decode cL_isLife 500 = .ok (.lload 9, 2) := by decide +kernel
theorem dL_isLife_502 : decode cL_isLife 502 = .ok (.iload 12, 2) := by decide +kernel
theorem dL_isLife_504 : decode cL_isLife 504 = .ok (.iconst 0, 1) := by decide +kernel
theorem dL_isLife_505 : decode cL_isLife 505 = .ok (.invokestatic 161, 3) := by decide +kernel
theorem dL_isLife_508 : decode cL_isLife 508 = .ok (.lload 9, 2) := by decide +kernel
theorem dL_isLife_51 : decode cL_isLife 51 = .ok (.iload 6, 2) := by decide +kernel
theorem dL_isLife_510 : decode cL_isLife 510 = .ok (.lcmp, 1) := by decide +kernel
theorem dL_isLife_511 : decode cL_isLife 511 = .ok (.ifCond .ne 33, 3) := by decide +kernel
theorem dL_isLife_514 : decode cL_isLife 514 = .ok (.aload_n 0, 1) := by decide +kernel
theorem dL_isLife_515 : decode cL_isLife 515 = .ok (.bipush 16, 2) := by decide +kernel
theorem dL_isLife_517 : decode cL_isLife 517 = .ok (.lload 9, 2) := by decide +kernel
theorem dL_isLife_519 : decode cL_isLife 519 = .ok (.iload 12, 2) := by decide +kernel
theorem dL_isLife_521 : decode cL_isLife 521 = .ok (.iconst 0, 1) := by decide +kernel
theorem dL_isLife_522 : decode cL_isLife 522 = .ok (.invokestatic 161, 3) := by decide +kernel
theorem dL_isLife_525 : decode cL_isLife 525 = .ok (.lload 9, 2) := by decide +kernel
theorem dL_isLife_527 : decode cL_isLife 527 = .ok (.aload 5, 2) := by decide +kernel
theorem dL_isLife_529 : decode cL_isLife 529 = .ok (.iload 12, 2) := by decide +kernel
theorem dL_isLife_53 : decode cL_isLife 53 = .ok (.iload 6, 2) := by decide +kernel
theorem dL_isLife_531 : decode cL_isLife 531 = .ok (.iaload, 1) := by decide +kernel
theorem dL_isLife_532 : decode cL_isLife 532 = .ok (.i2l, 1) := by decide +kernel
theorem dL_isLife_533 : decode cL_isLife 533 = .ok (.lmul, 1) := by decide +kernel
theorem dL_isLife_534 : decode cL_isLife 534 = .ok (.lload 13, 2) := by decide +kernel
theorem dL_isLife_536 : decode cL_isLife 536 = .ok (.iload_n 2, 1) := by decide +kernel
theorem dL_isLife_537 : decode cL_isLife 537 = .ok (.invokestatic 158, 3) := by decide +kernel
theorem dL_isLife_540 : decode cL_isLife 540 = .ok (.lcmp, 1) := by decide +kernel
theorem dL_isLife_541 : decode cL_isLife 541 = .ok (.ifCond .eq 5, 3) := by decide +kernel
theorem dL_isLife_546 : decode cL_isLife 546 = .ok (.aload_n 1, 1) := by decide +kernel
theorem dL_isLife_547 : decode cL_isLife 547 = .ok (.iload 4, 2) := by decide +kernel
theorem dL_isLife_549 : decode cL_isLife 549 = .ok (.invokestatic 13, 3) := by decide +kernel
theorem dL_isLife_55 : decode cL_isLife 55 = .ok (.ifCond .ne 15, 3) := by decide +kernel
theorem dL_isLife_552 : decode cL_isLife 552 = .ok (.istore 15, 2) := by decide +kernel
theorem dL_isLife_554 : decode cL_isLife 554 = .ok (.aload_n 0, 1) := by decide +kernel
theorem dL_isLife_555 : decode cL_isLife 555 = .ok (.bipush 25, 2) := by decide +kernel
theorem dL_isLife_557 : decode cL_isLife 557 = .ok (.lload 9, 2) := by decide +kernel
theorem dL_isLife_559 : decode cL_isLife 559 = .ok (.iload 15, 2) := by decide +kernel
theorem dL_isLife_561 : decode cL_isLife 561 = .ok (.iload 6, 2) := by decide +kernel
theorem dL_isLife_563 : decode cL_isLife 563 = .ok (.invokestatic 161, 3) := by decide +kernel
theorem dL_isLife_566 : decode cL_isLife 566 = .ok (.lstore 16, 2) := by decide +kernel
theorem dL_isLife_568 : decode cL_isLife 568 = .ok (.lload 16, 2) := by decide +kernel
theorem dL_isLife_570 : decode cL_isLife 570 = .ok (.aload_n 0, 1) := by decide +kernel
theorem dL_isLife_571 : decode cL_isLife 571 = .ok (.bipush 26, 2) := by decide +kernel
theorem dL_isLife_573 : decode cL_isLife 573 = .ok (.lload 9, 2) := by decide +kernel
theorem dL_isLife_575 : decode cL_isLife 575 = .ok (.iload 15, 2) := by decide +kernel
theorem dL_isLife_577 : decode cL_isLife 577 = .ok (.iload 6, 2) := by decide +kernel
theorem dL_isLife_579 : decode cL_isLife 579 = .ok (.invokestatic 161, 3) := by decide +kernel
theorem dL_isLife_58 : decode cL_isLife 58 = .ok (.iconst 1, 1) := by decide +kernel
theorem dL_isLife_582 : decode cL_isLife 582 = .ok (.lcmp, 1) := by decide +kernel
theorem dL_isLife_583 : decode cL_isLife 583 = .ok (.ifCond .ne 15, 3) := by decide +kernel
theorem dL_isLife_586 : decode cL_isLife 586 = .ok (.iload 15, 2) := by decide +kernel
theorem dL_isLife_588 : decode cL_isLife 588 = .ok (.ifCond .ne 12, 3) := by decide +kernel
theorem dL_isLife_59 : decode cL_isLife 59 = .ok (.aload_n 1, 1) := by decide +kernel
theorem dL_isLife_591 : decode cL_isLife 591 = .ok (.lload 16, 2) := by decide +kernel
theorem dL_isLife_593 : decode cL_isLife 593 = .ok (.lconst 0, 1) := by decide +kernel
theorem dL_isLife_594 : decode cL_isLife 594 = .ok (.lcmp, 1) := by decide +kernel
theorem dL_isLife_595 : decode cL_isLife 595 = .ok (.ifCond .eq 5, 3) := by decide +kernel
theorem dL_isLife_6 : decode cL_isLife 6 = .ok (.invokevirtual 229, 3) := by decide +kernel
theorem dL_isLife_60 : decode cL_isLife 60 = .ok (.sipush 10000, 3) := by decide +kernel
theorem dL_isLife_600 : decode cL_isLife 600 = .ok (.aload_n 0, 1) := by decide +kernel
theorem dL_isLife_601 : decode cL_isLife 601 = .ok (.bipush 25, 2) := by decide +kernel
theorem dL_isLife_603 : decode cL_isLife 603 = .ok (.lload 9, 2) := by decide +kernel
theorem dL_isLife_605 : decode cL_isLife 605 = .ok (.iload 4, 2) := by decide +kernel
theorem dL_isLife_607 : decode cL_isLife 607 = .ok (.iload 6, 2) := by decide +kernel
theorem dL_isLife_609 : decode cL_isLife 609 = .ok (.invokestatic 161, 3) := by decide +kernel
theorem dL_isLife_612 : decode cL_isLife 612 = .ok (.ldc2_w 123, 3) := by decide +kernel
theorem dL_isLife_615 : decode cL_isLife 615 = .ok (.lcmp, 1) := by decide +kernel
theorem dL_isLife_616 : decode cL_isLife 616 = .ok (.ifCond .ne 145, 3) := by decide +kernel
theorem dL_isLife_619 : decode cL_isLife 619 = .ok (.aload_n 0, 1) := by decide +kernel
theorem dL_isLife_620 : decode cL_isLife 620 = .ok (.bipush 26, 2) := by decide +kernel
theorem dL_isLife_622 : decode cL_isLife 622 = .ok (.lload 9, 2) := by decide +kernel
theorem dL_isLife_624 : decode cL_isLife 624 = .ok (.ldc 235, 2) := by decide +kernel
theorem dL_isLife_626 : decode cL_isLife 626 = .ok (.iload 6, 2) := by decide +kernel
theorem dL_isLife_628 : decode cL_isLife 628 = .ok (.invokestatic 161, 3) := by decide +kernel
theorem dL_isLife_63 : decode cL_isLife 63 = .ok (.invokestatic 13, 3) := by decide +kernel
theorem dL_isLife_631 : decode cL_isLife 631 = .ok (.ldc2_w 123, 3) := by decide +kernel
theorem dL_isLife_634 : decode cL_isLife 634 = .ok (.lcmp, 1) := by decide +kernel
theorem dL_isLife_635 : decode cL_isLife 635 = .ok (.ifCond .ne 126, 3) := by decide +kernel
theorem dL_isLife_638 : decode cL_isLife 638 = .ok (.aload_n 0, 1) := by decide +kernel
theorem dL_isLife_639 : decode cL_isLife 639 = .ok (.bipush 25, 2) := by decide +kernel
theorem dL_isLife_641 : decode cL_isLife 641 = .ok (.lload 9, 2) := by decide +kernel
theorem dL_isLife_643 : decode cL_isLife 643 = .ok (.iconst (-1), 1) := by decide +kernel
theorem dL_isLife_644 : decode cL_isLife 644 = .ok (.iload 6, 2) := by decide +kernel
theorem dL_isLife_646 : decode cL_isLife 646 = .ok (.invokestatic 161, 3) := by decide +kernel
theorem dL_isLife_649 : decode cL_isLife 649 = .ok (.ldc2_w 127, 3) := by decide +kernel
theorem dL_isLife_652 : decode cL_isLife 652 = .ok (.lcmp, 1) := by decide +kernel
theorem dL_isLife_653 : decode cL_isLife 653 = .ok (.ifCond .ne 108, 3) := by decide +kernel
theorem dL_isLife_656 : decode cL_isLife 656 = .ok (.aload_n 0, 1) := by decide +kernel
theorem dL_isLife_657 : decode cL_isLife 657 = .ok (.bipush 14, 2) := by decide +kernel
theorem dL_isLife_659 : decode cL_isLife 659 = .ok (.lload 9, 2) := by decide +kernel
theorem dL_isLife_66 : decode cL_isLife 66 = .ok (.iadd, 1) := by decide +kernel
theorem dL_isLife_661 : decode cL_isLife 661 = .ok (.iload 4, 2) := by decide +kernel
theorem dL_isLife_663 : decode cL_isLife 663 = .ok (.iload 6, 2) := by decide +kernel
theorem dL_isLife_665 : decode cL_isLife 665 = .ok (.invokestatic 161, 3) := by decide +kernel
theorem dL_isLife_668 : decode cL_isLife 668 = .ok (.ldc2_w 123, 3) := by decide +kernel
theorem dL_isLife_67 : decode cL_isLife 67 = .ok (.goto 16, 3) := by decide +kernel
theorem dL_isLife_671 : decode cL_isLife 671 = .ok (.lcmp, 1) := by decide +kernel
theorem dL_isLife_672 : decode cL_isLife 672 = .ok (.ifCond .ne 89, 3) := by decide +kernel
theorem dL_isLife_675 : decode cL_isLife 675 = .ok (.aload_n 0, 1) := by decide +kernel
theorem dL_isLife_676 : decode cL_isLife 676 = .ok (.bipush 14, 2) := by decide +kernel
theorem dL_isLife_678 : decode cL_isLife 678 = .ok (.lload 9, 2) := by decide +kernel
theorem dL_isLife_680 : decode cL_isLife 680 = .ok (.iconst (-1), 1) := by decide +kernel
theorem dL_isLife_681 : decode cL_isLife 681 = .ok (.iload 6, 2) := by decide +kernel
theorem dL_isLife_683 : decode cL_isLife 683 = .ok (.invokestatic 161, 3) := by decide +kernel
theorem dL_isLife_686 : decode cL_isLife 686 = .ok (.ldc2_w 123, 3) := by decide +kernel
theorem dL_isLife_689 : decode cL_isLife 689 = .ok (.lcmp, 1) := by decide +kernel
theorem dL_isLife_690 : decode cL_isLife 690 = .ok (.ifCond .ne 71, 3) := by decide +kernel
theorem dL_isLife_693 : decode cL_isLife 693 = .ok (.aload_n 0, 1) := by decide +kernel
theorem dL_isLife_694 : decode cL_isLife 694 = .ok (.bipush 15, 2) := by decide +kernel
theorem dL_isLife_696 : decode cL_isLife 696 = .ok (.ldc2_w 191, 3) := by decide +kernel
theorem dL_isLife_699 : decode cL_isLife 699 = .ok (.iload 4, 2) := by decide +kernel
theorem dL_isLife_70 : decode cL_isLife 70 = .ok (.iconst 1, 1) := by decide +kernel
theorem dL_isLife_701 : decode cL_isLife 701 = .ok (.iload 6, 2) := by decide +kernel
theorem dL_isLife_703 : decode cL_isLife 703 = .ok (.invokestatic 161, 3) := by decide +kernel
theorem dL_isLife_706 : decode cL_isLife 706 = .ok (.ldc2_w 127, 3) := by decide +kernel
theorem dL_isLife_709 : decode cL_isLife 709 = .ok (.lcmp, 1) := by decide +kernel
theorem dL_isLife_71 : decode cL_isLife 71 = .ok (.aload_n 1, 1) := by decide +kernel
theorem dL_isLife_710 : decode cL_isLife 710 = .ok (.ifCond .ne 51, 3) := by decide +kernel
theorem dL_isLife_713 : decode cL_isLife 713 = .ok (.aload_n 0, 1) := by decide +kernel
theorem dL_isLife_714 : decode cL_isLife 714 = .ok (.bipush 13, 2) := by decide +kernel
theorem dL_isLife_716 : decode cL_isLife 716 = .ok (.lconst 0, 1) := by decide +kernel
theorem dL_isLife_717 : decode cL_isLife 717 = .ok (.aload 5, 2) := by decide +kernel
theorem dL_isLife_719 : decode cL_isLife 719 = .ok (.iload 11, 2) := by decide +kernel
theorem dL_isLife_72 : decode cL_isLife 72 = .ok (.aload 5, 2) := by decide +kernel
theorem dL_isLife_721 : decode cL_isLife 721 = .ok (.iaload, 1) := by decide +kernel
theorem dL_isLife_722 : decode cL_isLife 722 = .ok (.iconst 1, 1) := by decide +kernel
theorem dL_isLife_723 : decode cL_isLife 723 = .ok (.iadd, 1) := by decide +kernel
theorem dL_isLife_724 : decode cL_isLife 724 = .ok (.iconst 0, 1) := by decide +kernel
theorem dL_isLife_725 : decode cL_isLife 725 = .ok (.invokestatic 161, 3) := by decide +kernel
theorem dL_isLife_728 : decode cL_isLife 728 = .ok (.iload 4, 2) := by decide +kernel
theorem dL_isLife_730 : decode cL_isLife 730 = .ok (.bipush 31, 2) := by decide +kernel
theorem dL_isLife_732 : decode cL_isLife 732 = .ok (.if_icmp .ge 9, 3) := by decide +kernel
theorem dL_isLife_735 : decode cL_isLife 735 = .ok (.ldc2_w 127, 3) := by decide +kernel
theorem dL_isLife_738 : decode cL_isLife 738 = .ok (.goto 6, 3) := by decide +kernel
theorem dL_isLife_74 : decode cL_isLife 74 = .ok (.iload 6, 2) := by decide +kernel
theorem dL_isLife_744 : decode cL_isLife 744 = .ok (.lcmp, 1) := by decide +kernel
theorem dL_isLife_745 : decode cL_isLife 745 = .ok (.ifCond .ne 16, 3) := by decide +kernel
theorem dL_isLife_748 : decode cL_isLife 748 = .ok (.aload_n 0, 1) := by decide +kernel
theorem dL_isLife_749 : decode cL_isLife 749 = .ok (.iload 6, 2) := by decide +kernel
theorem dL_isLife_751 : decode cL_isLife 751 = .ok (.invokevirtual 196, 3) := by decide +kernel
theorem dL_isLife_754 : decode cL_isLife 754 = .ok (.ifCond .ne 7, 3) := by decide +kernel
theorem dL_isLife_757 : decode cL_isLife 757 = .ok (.iconst 1, 1) := by decide +kernel
theorem dL_isLife_758 : decode cL_isLife 758 = .ok (.goto 4, 3) := by decide +kernel
theorem dL_isLife_76 : decode cL_isLife 76 = .ok (.iconst 1, 1) := by decide +kernel
theorem dL_isLife_762 : decode cL_isLife 762 = .ok (.ireturn, 1) := by decide +kernel
theorem dL_isLife_77 : decode cL_isLife 77 = .ok (.isub, 1) := by decide +kernel
theorem dL_isLife_78 : decode cL_isLife 78 = .ok (.iaload, 1) := by decide +kernel
theorem dL_isLife_79 : decode cL_isLife 79 = .ok (.invokestatic 13, 3) := by decide +kernel
theorem dL_isLife_82 : decode cL_isLife 82 = .ok (.iadd, 1) := by decide +kernel
theorem dL_isLife_83 : decode cL_isLife 83 = .ok (.iastore, 1) := by decide +kernel
theorem dL_isLife_84 : decode cL_isLife 84 = .ok (.iload 6, 2) := by decide +kernel
theorem dL_isLife_86 : decode cL_isLife 86 = .ok (.ifCond .le 47, 3) := by decide +kernel
theorem dL_isLife_89 : decode cL_isLife 89 = .ok (.aload_n 1, 1) := by decide +kernel
theorem dL_isLife_9 : decode cL_isLife 9 = .ok (.istore_n 3, 1) := by decide +kernel
theorem dL_isLife_90 : decode cL_isLife 90 = .ok (.iconst 3, 1) := by decide +kernel
theorem dL_isLife_91 : decode cL_isLife 91 = .ok (.invokestatic 13, 3) := by decide +kernel
theorem dL_isLife_94 : decode cL_isLife 94 = .ok (.ifCond .le 39, 3) := by decide +kernel
theorem dL_isLife_97 : decode cL_isLife 97 = .ok (.aload 5, 2) := by decide +kernel
theorem dL_isLife_99 : decode cL_isLife 99 = .ok (.iload 6, 2) := by decide +kernel
set_option maxRecDepth 20000 in
theorem gpL_isLife_L_asks_wsL_asks_r1 : GoodIn wsL_isLife wsL_asks_r1 := goodIn_r _ [70, 71, 72, 7, 9, 11, 73, 74, 75, 15, 76, 77, 78, 79, 80, 17, 47, 48, 49, 50, 51, 52, 53, 54] (by decide +kernel) (by decide +kernel)
theorem gpL_isLife_L_asks_wsL_asks_r2 : GoodIn wsL_isLife wsL_asks_r2 := goodIn_r _ [81, 82, 83, 84, 85, 86, 87, 4, 88, 89, 90, 91, 92, 93, 94, 95, 96, 56, 57, 58, 59, 97, 98, 99] (by decide +kernel) (by decide +kernel)
theorem gpL_isLife_L_asks_wsL_asks_r3 : GoodIn wsL_isLife wsL_asks_r3 := goodIn_r _ [100, 101, 102, 103, 104, 105, 106, 107, 108, 109, 110, 111, 112, 113, 114, 115, 116, 117, 118, 119, 120, 121, 122, 123] (by decide +kernel) (by decide +kernel)
theorem gpL_isLife_L_asks_wsL_asks_r4 : GoodIn wsL_isLife wsL_asks_r4 := goodIn_r _ [124, 125, 126, 127, 128, 129, 130, 131, 132, 133, 134, 135, 136, 137, 138, 139, 140, 141, 142, 143, 144, 145, 3, 5] (by decide +kernel) (by decide +kernel)
theorem gpL_isLife_L_asks_wsL_asks_r5 : GoodIn wsL_isLife wsL_asks_r5 := goodIn_r _ [146, 147, 148, 149, 150, 151, 152, 153, 154, 155, 156, 157, 158, 159, 160, 161, 162, 163, 164, 165, 166, 167, 168, 169] (by decide +kernel) (by decide +kernel)
theorem gpL_isLife_L_asks_wsL_asks_r6 : GoodIn wsL_isLife wsL_asks_r6 := goodIn_r _ [170, 171, 172, 173, 174, 175, 176, 177, 178, 179, 180, 181, 182, 183, 184, 185, 186, 187, 188, 189, 190, 191, 192, 193] (by decide +kernel) (by decide +kernel)
theorem gpL_isLife_L_asks_wsL_asks_r7 : GoodIn wsL_isLife wsL_asks_r7 := goodIn_r _ [194, 195, 196, 197, 198, 199, 200, 201, 202, 203, 204, 205, 206, 207, 208, 209, 210, 211, 212, 213, 214, 215, 216, 217] (by decide +kernel) (by decide +kernel)
theorem gpL_isLife_L_asks_wsL_asks_r8 : GoodIn wsL_isLife wsL_asks_r8 := goodIn_r _ [218, 219, 220, 221, 222, 223, 224, 225, 226, 227, 228, 229, 230, 231, 232, 233, 234, 235, 236, 237, 238, 239, 240, 241] (by decide +kernel) (by decide +kernel)
theorem gpL_isLife_L_asks_wsL_asks_r9 : GoodIn wsL_isLife wsL_asks_r9 := goodIn_r _ [242, 243, 244, 245, 246, 247, 248, 249, 250, 251, 252, 253, 254, 255, 256, 257, 258, 259, 260, 261, 262, 263, 264, 265] (by decide +kernel) (by decide +kernel)
theorem gpL_isLife_L_asks_wsL_asks_r10 : GoodIn wsL_isLife wsL_asks_r10 := goodIn_r _ [266, 267, 268, 269, 270, 271, 272, 273, 274, 275, 55, 276, 277, 278, 279, 280, 281, 282, 283, 284, 285, 286, 287, 288] (by decide +kernel) (by decide +kernel)
theorem gpL_isLife_L_asks_wsL_asks_r11 : GoodIn wsL_isLife wsL_asks_r11 := goodIn_r _ [289, 290, 291, 292, 293, 294, 295, 296, 297, 298, 299, 300, 301, 302, 303, 304, 305, 306, 307, 308, 309, 310, 311, 312] (by decide +kernel) (by decide +kernel)
theorem gpL_isLife_L_asks_wsL_asks_r12 : GoodIn wsL_isLife wsL_asks_r12 := goodIn_r _ [313, 314, 315, 316, 317, 318, 319, 320, 321, 322, 323, 324, 325, 326, 327, 328, 329, 330, 331, 332, 333, 334, 335, 336] (by decide +kernel) (by decide +kernel)
theorem gpL_isLife_L_asks_wsL_asks_r13 : GoodIn wsL_isLife wsL_asks_r13 := goodIn_r _ [337, 338, 339, 340, 341, 342, 343, 344, 345, 346, 347, 348, 349, 350, 351, 352, 353, 354, 355, 356, 357, 358, 359, 360] (by decide +kernel) (by decide +kernel)
theorem gpL_isLife_L_asks_wsL_asks_r14 : GoodIn wsL_isLife wsL_asks_r14 := goodIn_r _ [361, 362, 363, 364, 365, 366, 367, 368, 369, 370, 371, 372, 373, 374, 375, 376, 377, 378, 379, 380, 381, 382, 383, 384] (by decide +kernel) (by decide +kernel)
theorem gpL_isLife_L_asks_wsL_asks_r15 : GoodIn wsL_isLife wsL_asks_r15 := goodIn_r _ [385, 386, 387, 388, 389, 390, 391, 392, 393, 394, 395, 396, 397, 398, 399, 400, 401, 402, 403, 404, 405, 406, 407, 408] (by decide +kernel) (by decide +kernel)
theorem gpL_isLife_L_asks_wsL_asks_r16 : GoodIn wsL_isLife wsL_asks_r16 := goodIn_r _ [409, 410, 411, 412, 413, 414, 415, 416, 417, 418, 419, 420, 36, 37, 38, 39, 23, 40, 41, 42, 43, 27, 44, 29] (by decide +kernel) (by decide +kernel)
theorem gpL_isLife_L_asks_wsL_asks_r17 : GoodIn wsL_isLife wsL_asks_r17 := goodIn_r _ [45, 46, 60, 61, 62, 63, 421, 422, 423, 424, 425, 426, 427, 428, 429, 430, 431, 432, 433, 434, 435, 436, 437, 438] (by decide +kernel) (by decide +kernel)
theorem gpL_isLife_L_asks_wsL_asks_r18 : GoodIn wsL_isLife wsL_asks_r18 := goodIn_r _ [439, 440, 441, 442, 443, 444, 445, 446, 447, 448, 449, 450, 451, 452, 453, 454, 455, 456, 457, 458, 459, 460, 461, 462] (by decide +kernel) (by decide +kernel)
theorem gpL_isLife_L_asks_wsL_asks_r19 : GoodIn wsL_isLife wsL_asks_r19 := goodIn_r _ [463, 464, 465, 466, 467, 468, 469, 470, 471, 472, 473, 474, 475, 476, 477, 478, 479, 480, 481, 482, 483, 484, 485, 486] (by decide +kernel) (by decide +kernel)
theorem gpL_isLife_L_asks_wsL_asks_r20 : GoodIn wsL_isLife wsL_asks_r20 := goodIn_r _ [487, 488, 489, 490, 491, 492, 493, 494, 495, 496, 497, 498, 499, 500, 501, 502, 503, 504, 505, 506, 507, 508, 509, 510] (by decide +kernel) (by decide +kernel)
theorem gpL_isLife_L_asks_wsL_asks_r21 : GoodIn wsL_isLife wsL_asks_r21 := goodIn_r _ [511, 512, 513, 514, 515, 516, 517, 518, 519, 520, 521, 522, 523, 524, 525, 526, 527, 528, 529, 530, 531, 532, 533, 534] (by decide +kernel) (by decide +kernel)
theorem gpL_isLife_L_asks_wsL_asks_r22 : GoodIn wsL_isLife wsL_asks_r22 := goodIn_r _ [535, 536, 537, 538, 539, 540, 541, 542, 543, 544, 545, 546, 547, 548, 549, 550, 551, 552, 553, 554, 555, 556, 557, 558] (by decide +kernel) (by decide +kernel)
theorem gpL_isLife_L_asks_wsL_asks_r23 : GoodIn wsL_isLife wsL_asks_r23 := goodIn_r _ [18, 559, 560, 561, 562, 563, 564, 565, 566, 567, 568, 569, 570, 571, 572, 573, 574, 575, 576, 577, 578, 579, 580, 581] (by decide +kernel) (by decide +kernel)
theorem gpL_isLife_L_asks_wsL_asks_r24 : GoodIn wsL_isLife wsL_asks_r24 := goodIn_r _ [582] (by decide +kernel) (by decide +kernel)
theorem gpL_isLife_L_asks_wsX90 : GoodIn wsL_isLife wsX90 := goodIn_r _ [627, 628, 629, 630, 631, 632, 633, 634] (by decide +kernel) (by decide +kernel)
theorem gpL_isLife_L_asks_wsX40 : GoodIn wsL_isLife wsX40 := goodIn_r _ [635] (by decide +kernel) (by decide +kernel)
theorem gpL_isLife_L_asks_wsX50 : GoodIn wsL_isLife wsX50 := goodIn_r _ [640, 641, 642] (by decide +kernel) (by decide +kernel)
theorem gpL_isLife_L_asks_wsX10 : GoodIn wsL_isLife wsX10 := goodIn_r _ [643, 644, 645, 646, 647, 648] (by decide +kernel) (by decide +kernel)
theorem gpL_isLife_L_asks_wsX80 : GoodIn wsL_isLife wsX80 := goodIn_r _ [649, 650, 651] (by decide +kernel) (by decide +kernel)
theorem gpL_isLife_L_asks_wsX30 : GoodIn wsL_isLife wsX30 := goodIn_r _ [652, 653, 654, 655, 656, 657, 658, 659] (by decide +kernel) (by decide +kernel)
theorem gpL_isLife_L_asks_wsX00 : GoodIn wsL_isLife wsX00 := goodIn_r _ [660] (by decide +kernel) (by decide +kernel)
theorem gpL_isLife_L_asks_wsX20 : GoodIn wsL_isLife wsX20 := goodIn_r _ [636, 637, 638, 639] (by decide +kernel) (by decide +kernel)
theorem gpL_isLife_L_asks_wsX60 : GoodIn wsL_isLife wsX60 := goodIn_r _ [661, 662] (by decide +kernel) (by decide +kernel)
theorem gpL_isLife_L_asks_wsX70 : GoodIn wsL_isLife wsX70 := goodIn_r _ [663, 664, 665] (by decide +kernel) (by decide +kernel)
theorem ggL_isLife_L_asks : GoodIn wsL_isLife wsL_asks := goodIn_ca (goodIn_ca (goodIn_ca (goodIn_cons (goodIn_r [_] [69] (by decide +kernel) (by decide +kernel)) (goodIn_app (goodIn_app (goodIn_app (goodIn_app (goodIn_app (goodIn_app (goodIn_app (goodIn_app (goodIn_app (goodIn_app (goodIn_app gpL_isLife_L_asks_wsL_asks_r1 (goodIn_app gpL_isLife_L_asks_wsL_asks_r2 (goodIn_app gpL_isLife_L_asks_wsL_asks_r3 (goodIn_app gpL_isLife_L_asks_wsL_asks_r4 (goodIn_app gpL_isLife_L_asks_wsL_asks_r5 (goodIn_app gpL_isLife_L_asks_wsL_asks_r6 (goodIn_app gpL_isLife_L_asks_wsL_asks_r7 (goodIn_app gpL_isLife_L_asks_wsL_asks_r8 (goodIn_app gpL_isLife_L_asks_wsL_asks_r9 (goodIn_app gpL_isLife_L_asks_wsL_asks_r10 (goodIn_app gpL_isLife_L_asks_wsL_asks_r11 (goodIn_app gpL_isLife_L_asks_wsL_asks_r12 (goodIn_app gpL_isLife_L_asks_wsL_asks_r13 (goodIn_app gpL_isLife_L_asks_wsL_asks_r14 (goodIn_app gpL_isLife_L_asks_wsL_asks_r15 (goodIn_app gpL_isLife_L_asks_wsL_asks_r16 (goodIn_app gpL_isLife_L_asks_wsL_asks_r17 (goodIn_app gpL_isLife_L_asks_wsL_asks_r18 (goodIn_app gpL_isLife_L_asks_wsL_asks_r19 (goodIn_app gpL_isLife_L_asks_wsL_asks_r20 (goodIn_app gpL_isLife_L_asks_wsL_asks_r21 (goodIn_app gpL_isLife_L_asks_wsL_asks_r22 (goodIn_app gpL_isLife_L_asks_wsL_asks_r23 (gpL_isLife_L_asks_wsL_asks_r24)))))))))))))))))))))))) gpL_isLife_L_asks_wsX90) gpL_isLife_L_asks_wsX40) gpL_isLife_L_asks_wsX50) gpL_isLife_L_asks_wsX10) gpL_isLife_L_asks_wsX80) gpL_isLife_L_asks_wsX30) gpL_isLife_L_asks_wsX00) gpL_isLife_L_asks_wsX20) gpL_isLife_L_asks_wsX60) gpL_isLife_L_asks_wsX70)) (goodIn_sub (fun _ h => List.mem_cons_of_mem _ (List.mem_append_left _ (List.mem_append_left _ (List.mem_append_right _ h)))) (by decide +kernel))) (goodIn_sub (fun _ h => List.mem_cons_of_mem _ (List.mem_append_left _ (List.mem_append_right _ h))) (by decide +kernel))) (goodIn_sub (fun _ h => List.mem_cons_of_mem _ (List.mem_append_right _ h)) (by decide +kernel))
set_option maxRecDepth 20000 in
theorem gL_isLife_L_asks : GoodIn wsL_isLife (va_wsS RL 161 yL_asks wsL_asks) := goodIn_app (goodIn_of _ (by decide +kernel)) ggL_isLife_L_asks
set_option maxRecDepth 20000 in
theorem ggL_isLife_L_draw : GoodIn wsL_isLife wsL_draw := goodIn_r _ [33, 34, 35] (by decide +kernel) (by decide +kernel)
set_option maxRecDepth 20000 in
theorem gL_isLife_L_draw : GoodIn wsL_isLife (va_wsS RL 13 yL_draw wsL_draw) := goodIn_app (goodIn_of _ (by decide +kernel)) ggL_isLife_L_draw
set_option maxRecDepth 20000 in
theorem ggL_isLife_L_rate : GoodIn wsL_isLife wsL_rate := goodIn_r _ [66, 30, 31, 32, 33, 34, 35] (by decide +kernel) (by decide +kernel)
set_option maxRecDepth 20000 in
theorem gL_isLife_L_rate : GoodIn wsL_isLife (va_wsS RL 173 yL_rate wsL_rate) := goodIn_app (goodIn_of _ (by decide +kernel)) ggL_isLife_L_rate
set_option maxRecDepth 20000 in
theorem ggL_isLife_L_rounded : GoodIn wsL_isLife wsL_rounded := goodIn_r _ [585, 586, 11, 587, 588, 589, 590, 591, 592, 593, 594] (by decide +kernel) (by decide +kernel)
set_option maxRecDepth 20000 in
theorem gL_isLife_L_rounded : GoodIn wsL_isLife (va_wsS RL 158 yL_rounded wsL_rounded) := goodIn_app (goodIn_of _ (by decide +kernel)) ggL_isLife_L_rounded
set_option maxRecDepth 20000 in
theorem ggL_isLife_X9_clearLives : GoodIn wsL_isLife wsX9_clearLives := goodIn_r _ [22, 23, 24, 25, 26, 27, 28, 29, 627, 628, 629, 630, 631, 632, 633, 634, 636, 637, 638, 639] (by decide +kernel) (by decide +kernel)
set_option maxRecDepth 20000 in
theorem gL_isLife_X9_clearLives : GoodIn wsL_isLife (wsV RL 229 RX9 yX9_clearLives wsX9_clearLives) := goodIn_app (goodIn_of _ (by decide +kernel)) ggL_isLife_X9_clearLives
set_option maxRecDepth 20000 in
theorem gpL_isLife_X9_errors_wsX9_errors_r1 : GoodIn wsL_isLife wsX9_errors_r1 := goodIn_r _ [109, 296, 23, 471, 599, 137, 138, 15, 139, 140, 47, 48, 49, 50, 51, 52, 53, 54, 600, 601, 602, 113, 603, 604] (by decide +kernel) (by decide +kernel)
theorem gpL_isLife_X9_errors_wsX9_errors_r2 : GoodIn wsL_isLife wsX9_errors_r2 := goodIn_r _ [115, 148, 146, 605, 153, 154, 155, 156, 157, 158, 159, 160, 161, 162, 163, 164, 165, 166, 167, 168, 4, 169, 170, 171] (by decide +kernel) (by decide +kernel)
theorem gpL_isLife_X9_errors_wsX9_errors_r3 : GoodIn wsL_isLife wsX9_errors_r3 := goodIn_r _ [172, 173, 174, 175, 176, 177, 178, 179, 180, 181, 182, 183, 184, 185, 186, 187, 188, 189, 190, 191, 192, 193, 194, 195] (by decide +kernel) (by decide +kernel)
theorem gpL_isLife_X9_errors_wsX9_errors_r4 : GoodIn wsL_isLife wsX9_errors_r4 := goodIn_r _ [196, 197, 198, 199, 200, 201, 202, 203, 204, 205, 206, 207, 208, 209, 210, 211, 212, 213, 214, 215, 216, 217, 218, 219] (by decide +kernel) (by decide +kernel)
theorem gpL_isLife_X9_errors_wsX9_errors_r5 : GoodIn wsL_isLife wsX9_errors_r5 := goodIn_r _ [220, 221, 222, 223, 224, 225, 226, 3, 5, 606, 607, 608, 609, 610, 289, 244, 245, 246, 611, 612, 613, 300, 614, 302] (by decide +kernel) (by decide +kernel)
theorem gpL_isLife_X9_errors_wsX9_errors_r6 : GoodIn wsL_isLife wsX9_errors_r6 := goodIn_r _ [615, 390, 391, 392, 311, 313, 616, 617, 618, 27, 619, 29, 433, 465, 434, 466, 620, 46, 435, 571, 453, 454, 455, 456] (by decide +kernel) (by decide +kernel)
theorem gpL_isLife_X9_errors_wsX9_errors_r7 : GoodIn wsL_isLife wsX9_errors_r7 := goodIn_r _ [440, 441, 436, 437, 438, 439, 573, 443, 228, 229, 230, 231, 232, 233, 234, 235, 236, 621, 622, 623, 624, 476, 625, 479] (by decide +kernel) (by decide +kernel)
theorem gpL_isLife_X9_errors_wsX9_errors_r8 : GoodIn wsL_isLife wsX9_errors_r8 := goodIn_r _ [492, 485, 486, 487, 478, 626, 489, 490, 491] (by decide +kernel) (by decide +kernel)
theorem gpL_isLife_X9_errors_wsX90 : GoodIn wsL_isLife wsX90 := goodIn_r _ [627, 628, 629, 630, 631, 632, 633, 634] (by decide +kernel) (by decide +kernel)
theorem gpL_isLife_X9_errors_wsX50 : GoodIn wsL_isLife wsX50 := goodIn_r _ [640, 641, 642] (by decide +kernel) (by decide +kernel)
theorem gpL_isLife_X9_errors_wsX10 : GoodIn wsL_isLife wsX10 := goodIn_r _ [643, 644, 645, 646, 647, 648] (by decide +kernel) (by decide +kernel)
theorem gpL_isLife_X9_errors_wsX80 : GoodIn wsL_isLife wsX80 := goodIn_r _ [649, 650, 651] (by decide +kernel) (by decide +kernel)
theorem gpL_isLife_X9_errors_wsX30 : GoodIn wsL_isLife wsX30 := goodIn_r _ [652, 653, 654, 655, 656, 657, 658, 659] (by decide +kernel) (by decide +kernel)
theorem gpL_isLife_X9_errors_wsX20 : GoodIn wsL_isLife wsX20 := goodIn_r _ [636, 637, 638, 639] (by decide +kernel) (by decide +kernel)
theorem gpL_isLife_X9_errors_wsX60 : GoodIn wsL_isLife wsX60 := goodIn_r _ [661, 662] (by decide +kernel) (by decide +kernel)
theorem ggL_isLife_X9_errors : GoodIn wsL_isLife wsX9_errors := goodIn_ca (goodIn_cons (goodIn_r [_] [598] (by decide +kernel) (by decide +kernel)) (goodIn_app (goodIn_app (goodIn_app (goodIn_app (goodIn_app (goodIn_app (goodIn_app (goodIn_app gpL_isLife_X9_errors_wsX9_errors_r1 (goodIn_app gpL_isLife_X9_errors_wsX9_errors_r2 (goodIn_app gpL_isLife_X9_errors_wsX9_errors_r3 (goodIn_app gpL_isLife_X9_errors_wsX9_errors_r4 (goodIn_app gpL_isLife_X9_errors_wsX9_errors_r5 (goodIn_app gpL_isLife_X9_errors_wsX9_errors_r6 (goodIn_app gpL_isLife_X9_errors_wsX9_errors_r7 (gpL_isLife_X9_errors_wsX9_errors_r8)))))))) gpL_isLife_X9_errors_wsX90) gpL_isLife_X9_errors_wsX50) gpL_isLife_X9_errors_wsX10) gpL_isLife_X9_errors_wsX80) gpL_isLife_X9_errors_wsX30) gpL_isLife_X9_errors_wsX20) gpL_isLife_X9_errors_wsX60)) (goodIn_sub (fun _ h => List.mem_cons_of_mem _ (List.mem_append_left _ (List.mem_append_left _ (List.mem_append_right _ h)))) (by decide +kernel))
set_option maxRecDepth 20000 in
theorem gL_isLife_X9_errors : GoodIn wsL_isLife (wsV RL 196 RX9 yX9_errors wsX9_errors) := goodIn_app (goodIn_of _ (by decide +kernel)) ggL_isLife_X9_errors
set_option maxRecDepth 20000 in
theorem ggL_isLife_X9_live : GoodIn wsL_isLife wsX9_live := goodIn_ca (goodIn_ca (goodIn_r _ [39, 23, 40, 41, 42, 43, 27, 44, 29, 45, 46, 47, 48, 15, 49, 50, 51, 52, 53, 54, 55, 56, 57, 58, 59, 60, 61, 62, 63, 627, 628, 629, 630, 631, 632, 633, 634, 636, 637, 638, 639] (by decide +kernel) (by decide +kernel)) (goodIn_sub (fun _ h => List.mem_cons_of_mem _ (List.mem_append_left _ (List.mem_append_left _ (List.mem_append_right _ h)))) (by decide +kernel))) (goodIn_sub (fun _ h => List.mem_cons_of_mem _ (List.mem_append_left _ (List.mem_append_right _ h))) (by decide +kernel))
set_option maxRecDepth 20000 in
theorem gL_isLife_X9_live : GoodIn wsL_isLife (wsV RL 69 RX9 yX9_live wsX9_live) := goodIn_app (goodIn_of _ (by decide +kernel)) ggL_isLife_X9_live
set_option maxRecDepth 20000 in
theorem ggL_isLife_X9_mode : GoodIn wsL_isLife wsX9_mode := goodIn_r _ [16, 17, 18, 627, 628, 629, 630, 631, 632, 633, 634, 635] (by decide +kernel) (by decide +kernel)
set_option maxRecDepth 20000 in
theorem gL_isLife_X9_mode : GoodIn wsL_isLife (wsV RL 147 RX9 yX9_mode wsX9_mode) := goodIn_app (goodIn_of _ (by decide +kernel)) ggL_isLife_X9_mode
