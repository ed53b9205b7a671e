-- printed rows that the walks use
theorem dL_isWorth_0 : decode cL_isWorth 0 = .ok (.aload_n 0, 1) := by decide +kernel
theorem dL_isWorth_1 : decode cL_isWorth 1 = .ok (.invokevirtual 147, 3) := by decide +kernel
theorem dL_isWorth_10 : decode cL_isWorth 10 = .ok (.bipush 38, 2) := by decide +kernel
theorem dL_isWorth_102 : decode cL_isWorth 102 = .ok (.lmul, 1) := by decide +kernel
theorem dL_isWorth_103 : decode cL_isWorth 103 = .ok (.ldc2_w 177, 3) := by decide +kernel
theorem dL_isWorth_106 : decode cL_isWorth 106 = .ok (.lmul, 1) := by decide +kernel
theorem dL_isWorth_107 : decode cL_isWorth 107 = .ok (.ladd, 1) := by decide +kernel
theorem dL_isWorth_108 : decode cL_isWorth 108 = .ok (.lstore 7, 2) := by decide +kernel
theorem dL_isWorth_110 : decode cL_isWorth 110 = .ok (.aload_n 0, 1) := by decide +kernel
theorem dL_isWorth_111 : decode cL_isWorth 111 = .ok (.iconst 3, 1) := by decide +kernel
theorem dL_isWorth_112 : decode cL_isWorth 112 = .ok (.lconst 0, 1) := by decide +kernel
theorem dL_isWorth_113 : decode cL_isWorth 113 = .ok (.bipush 40, 2) := by decide +kernel
theorem dL_isWorth_115 : decode cL_isWorth 115 = .ok (.iload 4, 2) := by decide +kernel
theorem dL_isWorth_117 : decode cL_isWorth 117 = .ok (.invokestatic 161, 3) := by decide +kernel
theorem dL_isWorth_12 : decode cL_isWorth 12 = .ok (.istore 4, 2) := by decide +kernel
theorem dL_isWorth_120 : decode cL_isWorth 120 = .ok (.lload 7, 2) := by decide +kernel
theorem dL_isWorth_122 : decode cL_isWorth 122 = .ok (.ldc2_w 179, 3) := by decide +kernel
theorem dL_isWorth_125 : decode cL_isWorth 125 = .ok (.iload_n 2, 1) := by decide +kernel
theorem dL_isWorth_126 : decode cL_isWorth 126 = .ok (.invokestatic 158, 3) := by decide +kernel
theorem dL_isWorth_129 : decode cL_isWorth 129 = .ok (.lcmp, 1) := by decide +kernel
theorem dL_isWorth_130 : decode cL_isWorth 130 = .ok (.ifCond .ne 68, 3) := by decide +kernel
theorem dL_isWorth_133 : decode cL_isWorth 133 = .ok (.aload_n 0, 1) := by decide +kernel
theorem dL_isWorth_134 : decode cL_isWorth 134 = .ok (.iconst 3, 1) := by decide +kernel
theorem dL_isWorth_135 : decode cL_isWorth 135 = .ok (.lconst 0, 1) := by decide +kernel
theorem dL_isWorth_136 : decode cL_isWorth 136 = .ok (.bipush 39, 2) := by decide +kernel
theorem dL_isWorth_138 : decode cL_isWorth 138 = .ok (.iload 4, 2) := by decide +kernel
theorem dL_isWorth_14 : decode cL_isWorth 14 = .ok (.iload 4, 2) := by decide +kernel
theorem dL_isWorth_140 : decode cL_isWorth 140 = .ok (.invokestatic 161, 3) := by decide +kernel
theorem dL_isWorth_143 : decode cL_isWorth 143 = .ok (.lload 7, 2) := by decide +kernel
theorem dL_isWorth_145 : decode cL_isWorth 145 = .ok (.lload 5, 2) := by decide +kernel
theorem dL_isWorth_147 : decode cL_isWorth 147 = .ok (.ldc2_w 177, 3) := by decide +kernel
theorem dL_isWorth_150 : decode cL_isWorth 150 = .ok (.lmul, 1) := by decide +kernel
theorem dL_isWorth_151 : decode cL_isWorth 151 = .ok (.iload_n 2, 1) := by decide +kernel
theorem dL_isWorth_152 : decode cL_isWorth 152 = .ok (.invokestatic 158, 3) := by decide +kernel
theorem dL_isWorth_155 : decode cL_isWorth 155 = .ok (.lcmp, 1) := by decide +kernel
theorem dL_isWorth_156 : decode cL_isWorth 156 = .ok (.ifCond .ne 42, 3) := by decide +kernel
theorem dL_isWorth_159 : decode cL_isWorth 159 = .ok (.aload_n 0, 1) := by decide +kernel
theorem dL_isWorth_16 : decode cL_isWorth 16 = .ok (.bipush 41, 2) := by decide +kernel
theorem dL_isWorth_160 : decode cL_isWorth 160 = .ok (.iconst 3, 1) := by decide +kernel
theorem dL_isWorth_161 : decode cL_isWorth 161 = .ok (.lconst 0, 1) := by decide +kernel
theorem dL_isWorth_162 : decode cL_isWorth 162 = .ok (.bipush 38, 2) := by decide +kernel
theorem dL_isWorth_164 : decode cL_isWorth 164 = .ok (.iload 4, 2) := by decide +kernel
theorem dL_isWorth_166 : decode cL_isWorth 166 = .ok (.invokestatic 161, 3) := by decide +kernel
theorem dL_isWorth_169 : decode cL_isWorth 169 = .ok (.lload 7, 2) := by decide +kernel
theorem dL_isWorth_171 : decode cL_isWorth 171 = .ok (.lload 5, 2) := by decide +kernel
theorem dL_isWorth_173 : decode cL_isWorth 173 = .ok (.lload 5, 2) := by decide +kernel
theorem dL_isWorth_175 : decode cL_isWorth 175 = .ok (.lmul, 1) := by decide +kernel
theorem dL_isWorth_176 : decode cL_isWorth 176 = .ok (.iload_n 2, 1) := by decide +kernel
theorem dL_isWorth_177 : decode cL_isWorth 177 = .ok (.invokestatic 158, 3) := by decide +kernel
theorem dL_isWorth_18 : decode cL_isWorth 18 = .ok (.if_icmp .ge 35, 3) := by decide +kernel
theorem dL_isWorth_180 : decode cL_isWorth 180 = .ok (.lcmp, 1) := by decide +kernel
theorem dL_isWorth_181 : decode cL_isWorth 181 = .ok (.ifCond .ne 17, 3) := by decide +kernel
theorem dL_isWorth_184 : decode cL_isWorth 184 = .ok (.aload_n 0, 1) := by decide +kernel
theorem dL_isWorth_185 : decode cL_isWorth 185 = .ok (.iload 4, 2) := by decide +kernel
theorem dL_isWorth_187 : decode cL_isWorth 187 = .ok (.invokevirtual 118, 3) := by decide +kernel
theorem dL_isWorth_190 : decode cL_isWorth 190 = .ok (.lload 7, 2) := by decide +kernel
theorem dL_isWorth_192 : decode cL_isWorth 192 = .ok (.invokestatic 181, 3) := by decide +kernel
theorem dL_isWorth_195 : decode cL_isWorth 195 = .ok (.if_icmp .eq 5, 3) := by decide +kernel
theorem dL_isWorth_200 : decode cL_isWorth 200 = .ok (.bipush 41, 2) := by decide +kernel
theorem dL_isWorth_202 : decode cL_isWorth 202 = .ok (.newarray .long, 2) := by decide +kernel
theorem dL_isWorth_204 : decode cL_isWorth 204 = .ok (.astore 9, 2) := by decide +kernel
theorem dL_isWorth_206 : decode cL_isWorth 206 = .ok (.bipush 41, 2) := by decide +kernel
theorem dL_isWorth_208 : decode cL_isWorth 208 = .ok (.newarray .long, 2) := by decide +kernel
theorem dL_isWorth_21 : decode cL_isWorth 21 = .ok (.aload_n 3, 1) := by decide +kernel
theorem dL_isWorth_210 : decode cL_isWorth 210 = .ok (.astore 10, 2) := by decide +kernel
theorem dL_isWorth_212 : decode cL_isWorth 212 = .ok (.lconst 0, 1) := by decide +kernel
theorem dL_isWorth_213 : decode cL_isWorth 213 = .ok (.lstore 11, 2) := by decide +kernel
theorem dL_isWorth_215 : decode cL_isWorth 215 = .ok (.iconst 0, 1) := by decide +kernel
theorem dL_isWorth_216 : decode cL_isWorth 216 = .ok (.istore 13, 2) := by decide +kernel
theorem dL_isWorth_218 : decode cL_isWorth 218 = .ok (.iload 13, 2) := by decide +kernel
theorem dL_isWorth_22 : decode cL_isWorth 22 = .ok (.iload 4, 2) := by decide +kernel
theorem dL_isWorth_220 : decode cL_isWorth 220 = .ok (.bipush 41, 2) := by decide +kernel
theorem dL_isWorth_222 : decode cL_isWorth 222 = .ok (.if_icmp .ge 96, 3) := by decide +kernel
theorem dL_isWorth_225 : decode cL_isWorth 225 = .ok (.aload_n 1, 1) := by decide +kernel
theorem dL_isWorth_226 : decode cL_isWorth 226 = .ok (.iconst 3, 1) := by decide +kernel
theorem dL_isWorth_227 : decode cL_isWorth 227 = .ok (.invokestatic 13, 3) := by decide +kernel
theorem dL_isWorth_230 : decode cL_isWorth 230 = .ok (.ifCond .ne 41, 3) := by decide +kernel
theorem dL_isWorth_233 : decode cL_isWorth 233 = .ok (.aload 9, 2) := by decide +kernel
theorem dL_isWorth_235 : decode cL_isWorth 235 = .ok (.iload 13, 2) := by decide +kernel
theorem dL_isWorth_237 : decode cL_isWorth 237 = .ok (.aload_n 1, 1) := by decide +kernel
theorem dL_isWorth_238 : decode cL_isWorth 238 = .ok (.iconst 3, 1) := by decide +kernel
theorem dL_isWorth_239 : decode cL_isWorth 239 = .ok (.invokestatic 13, 3) := by decide +kernel
theorem dL_isWorth_24 : decode cL_isWorth 24 = .ok (.aload_n 1, 1) := by decide +kernel
theorem dL_isWorth_242 : decode cL_isWorth 242 = .ok (.ifCond .ne 16, 3) := by decide +kernel
theorem dL_isWorth_245 : decode cL_isWorth 245 = .ok (.aload_n 1, 1) := by decide +kernel
theorem dL_isWorth_246 : decode cL_isWorth 246 = .ok (.ldc 165, 2) := by decide +kernel
theorem dL_isWorth_248 : decode cL_isWorth 248 = .ok (.invokestatic 13, 3) := by decide +kernel
theorem dL_isWorth_25 : decode cL_isWorth 25 = .ok (.iconst 4, 1) := by decide +kernel
theorem dL_isWorth_251 : decode cL_isWorth 251 = .ok (.ldc 185, 2) := by decide +kernel
theorem dL_isWorth_253 : decode cL_isWorth 253 = .ok (.isub, 1) := by decide +kernel
theorem dL_isWorth_254 : decode cL_isWorth 254 = .ok (.i2l, 1) := by decide +kernel
theorem dL_isWorth_255 : decode cL_isWorth 255 = .ok (.goto 15, 3) := by decide +kernel
theorem dL_isWorth_258 : decode cL_isWorth 258 = .ok (.aload_n 1, 1) := by decide +kernel
theorem dL_isWorth_259 : decode cL_isWorth 259 = .ok (.sipush 2001, 3) := by decide +kernel
theorem dL_isWorth_26 : decode cL_isWorth 26 = .ok (.invokestatic 13, 3) := by decide +kernel
theorem dL_isWorth_262 : decode cL_isWorth 262 = .ok (.invokestatic 13, 3) := by decide +kernel
theorem dL_isWorth_265 : decode cL_isWorth 265 = .ok (.sipush 1000, 3) := by decide +kernel
theorem dL_isWorth_268 : decode cL_isWorth 268 = .ok (.isub, 1) := by decide +kernel
theorem dL_isWorth_269 : decode cL_isWorth 269 = .ok (.i2l, 1) := by decide +kernel
theorem dL_isWorth_270 : decode cL_isWorth 270 = .ok (.lastore, 1) := by decide +kernel
theorem dL_isWorth_271 : decode cL_isWorth 271 = .ok (.aload_n 1, 1) := by decide +kernel
theorem dL_isWorth_272 : decode cL_isWorth 272 = .ok (.iconst 4, 1) := by decide +kernel
theorem dL_isWorth_273 : decode cL_isWorth 273 = .ok (.invokestatic 13, 3) := by decide +kernel
theorem dL_isWorth_276 : decode cL_isWorth 276 = .ok (.ifCond .ne 20, 3) := by decide +kernel
theorem dL_isWorth_279 : decode cL_isWorth 279 = .ok (.aload 10, 2) := by decide +kernel
theorem dL_isWorth_281 : decode cL_isWorth 281 = .ok (.iload 13, 2) := by decide +kernel
theorem dL_isWorth_283 : decode cL_isWorth 283 = .ok (.aload_n 1, 1) := by decide +kernel
theorem dL_isWorth_284 : decode cL_isWorth 284 = .ok (.sipush 20001, 3) := by decide +kernel
theorem dL_isWorth_287 : decode cL_isWorth 287 = .ok (.invokestatic 13, 3) := by decide +kernel
theorem dL_isWorth_29 : decode cL_isWorth 29 = .ok (.ifCond .ne 7, 3) := by decide +kernel
theorem dL_isWorth_290 : decode cL_isWorth 290 = .ok (.sipush 10000, 3) := by decide +kernel
theorem dL_isWorth_293 : decode cL_isWorth 293 = .ok (.isub, 1) := by decide +kernel
theorem dL_isWorth_294 : decode cL_isWorth 294 = .ok (.i2l, 1) := by decide +kernel
theorem dL_isWorth_295 : decode cL_isWorth 295 = .ok (.lastore, 1) := by decide +kernel
theorem dL_isWorth_296 : decode cL_isWorth 296 = .ok (.lload 11, 2) := by decide +kernel
theorem dL_isWorth_298 : decode cL_isWorth 298 = .ok (.aload 9, 2) := by decide +kernel
theorem dL_isWorth_300 : decode cL_isWorth 300 = .ok (.iload 13, 2) := by decide +kernel
theorem dL_isWorth_302 : decode cL_isWorth 302 = .ok (.laload, 1) := by decide +kernel
theorem dL_isWorth_303 : decode cL_isWorth 303 = .ok (.aload 10, 2) := by decide +kernel
theorem dL_isWorth_305 : decode cL_isWorth 305 = .ok (.iload 13, 2) := by decide +kernel
theorem dL_isWorth_307 : decode cL_isWorth 307 = .ok (.laload, 1) := by decide +kernel
theorem dL_isWorth_308 : decode cL_isWorth 308 = .ok (.ladd, 1) := by decide +kernel
theorem dL_isWorth_309 : decode cL_isWorth 309 = .ok (.ladd, 1) := by decide +kernel
theorem dL_isWorth_310 : decode cL_isWorth 310 = .ok (.lstore 11, 2) := by decide +kernel
theorem dL_isWorth_312 : decode cL_isWorth 312 = .ok (.iinc 13 1, 3) := by decide +kernel
theorem dL_isWorth_315 : decode cL_isWorth 315 = .ok (.goto (-97), 3) := by decide +kernel
theorem dL_isWorth_318 : decode cL_isWorth 318 = .ok (.aload_n 0, 1) := by decide +kernel
theorem dL_isWorth_319 : decode cL_isWorth 319 = .ok (.iconst 3, 1) := by decide +kernel
theorem dL_isWorth_32 : decode cL_isWorth 32 = .ok (.lconst 0, 1) := by decide +kernel
theorem dL_isWorth_320 : decode cL_isWorth 320 = .ok (.invokevirtual 105, 3) := by decide +kernel
theorem dL_isWorth_323 : decode cL_isWorth 323 = .ok (.istore 13, 2) := by decide +kernel
theorem dL_isWorth_325 : decode cL_isWorth 325 = .ok (.aload_n 1, 1) := by decide +kernel
theorem dL_isWorth_326 : decode cL_isWorth 326 = .ok (.bipush 41, 2) := by decide +kernel
theorem dL_isWorth_328 : decode cL_isWorth 328 = .ok (.invokestatic 13, 3) := by decide +kernel
theorem dL_isWorth_33 : decode cL_isWorth 33 = .ok (.goto 13, 3) := by decide +kernel
theorem dL_isWorth_331 : decode cL_isWorth 331 = .ok (.istore 14, 2) := by decide +kernel
theorem dL_isWorth_333 : decode cL_isWorth 333 = .ok (.aload_n 0, 1) := by decide +kernel
theorem dL_isWorth_334 : decode cL_isWorth 334 = .ok (.aload 9, 2) := by decide +kernel
theorem dL_isWorth_336 : decode cL_isWorth 336 = .ok (.invokestatic 170, 3) := by decide +kernel
theorem dL_isWorth_339 : decode cL_isWorth 339 = .ok (.aload_n 0, 1) := by decide +kernel
theorem dL_isWorth_340 : decode cL_isWorth 340 = .ok (.iload 14, 2) := by decide +kernel
theorem dL_isWorth_342 : decode cL_isWorth 342 = .ok (.iload 4, 2) := by decide +kernel
theorem dL_isWorth_344 : decode cL_isWorth 344 = .ok (.invokevirtual 31, 3) := by decide +kernel
theorem dL_isWorth_347 : decode cL_isWorth 347 = .ok (.lstore 15, 2) := by decide +kernel
theorem dL_isWorth_349 : decode cL_isWorth 349 = .ok (.aload_n 0, 1) := by decide +kernel
theorem dL_isWorth_350 : decode cL_isWorth 350 = .ok (.aload 10, 2) := by decide +kernel
theorem dL_isWorth_352 : decode cL_isWorth 352 = .ok (.invokestatic 170, 3) := by decide +kernel
theorem dL_isWorth_355 : decode cL_isWorth 355 = .ok (.aload_n 0, 1) := by decide +kernel
theorem dL_isWorth_356 : decode cL_isWorth 356 = .ok (.iload 14, 2) := by decide +kernel
theorem dL_isWorth_358 : decode cL_isWorth 358 = .ok (.iload 4, 2) := by decide +kernel
theorem dL_isWorth_36 : decode cL_isWorth 36 = .ok (.aload_n 1, 1) := by decide +kernel
theorem dL_isWorth_360 : decode cL_isWorth 360 = .ok (.invokevirtual 31, 3) := by decide +kernel
theorem dL_isWorth_363 : decode cL_isWorth 363 = .ok (.lstore 17, 2) := by decide +kernel
theorem dL_isWorth_365 : decode cL_isWorth 365 = .ok (.iconst 0, 1) := by decide +kernel
theorem dL_isWorth_366 : decode cL_isWorth 366 = .ok (.istore 19, 2) := by decide +kernel
theorem dL_isWorth_368 : decode cL_isWorth 368 = .ok (.iload 19, 2) := by decide +kernel
theorem dL_isWorth_37 : decode cL_isWorth 37 = .ok (.ldc 169, 2) := by decide +kernel
theorem dL_isWorth_370 : decode cL_isWorth 370 = .ok (.bipush 41, 2) := by decide +kernel
theorem dL_isWorth_372 : decode cL_isWorth 372 = .ok (.if_icmp .ge 47, 3) := by decide +kernel
theorem dL_isWorth_375 : decode cL_isWorth 375 = .ok (.aload 9, 2) := by decide +kernel
theorem dL_isWorth_377 : decode cL_isWorth 377 = .ok (.iload 19, 2) := by decide +kernel
theorem dL_isWorth_379 : decode cL_isWorth 379 = .ok (.laload, 1) := by decide +kernel
theorem dL_isWorth_380 : decode cL_isWorth 380 = .ok (.lconst 0, 1) := by decide +kernel
theorem dL_isWorth_381 : decode cL_isWorth 381 = .ok (.lcmp, 1) := by decide +kernel
theorem dL_isWorth_382 : decode cL_isWorth 382 = .ok (.ifCond .eq 31, 3) := by decide +kernel
theorem dL_isWorth_385 : decode cL_isWorth 385 = .ok (.aload_n 0, 1) := by decide +kernel
theorem dL_isWorth_386 : decode cL_isWorth 386 = .ok (.iload 19, 2) := by decide +kernel
theorem dL_isWorth_388 : decode cL_isWorth 388 = .ok (.aload 9, 2) := by decide +kernel
theorem dL_isWorth_39 : decode cL_isWorth 39 = .ok (.invokestatic 13, 3) := by decide +kernel
theorem dL_isWorth_390 : decode cL_isWorth 390 = .ok (.iload 19, 2) := by decide +kernel
theorem dL_isWorth_392 : decode cL_isWorth 392 = .ok (.laload, 1) := by decide +kernel
theorem dL_isWorth_393 : decode cL_isWorth 393 = .ok (.invokevirtual 23, 3) := by decide +kernel
theorem dL_isWorth_396 : decode cL_isWorth 396 = .ok (.aload 9, 2) := by decide +kernel
theorem dL_isWorth_398 : decode cL_isWorth 398 = .ok (.iload 19, 2) := by decide +kernel
theorem dL_isWorth_4 : decode cL_isWorth 4 = .ok (.istore_n 2, 1) := by decide +kernel
theorem dL_isWorth_400 : decode cL_isWorth 400 = .ok (.laload, 1) := by decide +kernel
theorem dL_isWorth_401 : decode cL_isWorth 401 = .ok (.aload 10, 2) := by decide +kernel
theorem dL_isWorth_403 : decode cL_isWorth 403 = .ok (.iload 19, 2) := by decide +kernel
theorem dL_isWorth_405 : decode cL_isWorth 405 = .ok (.laload, 1) := by decide +kernel
theorem dL_isWorth_406 : decode cL_isWorth 406 = .ok (.ladd, 1) := by decide +kernel
theorem dL_isWorth_407 : decode cL_isWorth 407 = .ok (.lcmp, 1) := by decide +kernel
theorem dL_isWorth_408 : decode cL_isWorth 408 = .ok (.ifCond .eq 5, 3) := by decide +kernel
theorem dL_isWorth_413 : decode cL_isWorth 413 = .ok (.iinc 19 1, 3) := by decide +kernel
theorem dL_isWorth_416 : decode cL_isWorth 416 = .ok (.goto (-48), 3) := by decide +kernel
theorem dL_isWorth_419 : decode cL_isWorth 419 = .ok (.aload_n 0, 1) := by decide +kernel
theorem dL_isWorth_42 : decode cL_isWorth 42 = .ok (.ldc 152, 2) := by decide +kernel
theorem dL_isWorth_420 : decode cL_isWorth 420 = .ok (.iload 14, 2) := by decide +kernel
theorem dL_isWorth_422 : decode cL_isWorth 422 = .ok (.iload 4, 2) := by decide +kernel
theorem dL_isWorth_424 : decode cL_isWorth 424 = .ok (.invokevirtual 31, 3) := by decide +kernel
theorem dL_isWorth_427 : decode cL_isWorth 427 = .ok (.lstore 19, 2) := by decide +kernel
theorem dL_isWorth_429 : decode cL_isWorth 429 = .ok (.lload 19, 2) := by decide +kernel
theorem dL_isWorth_431 : decode cL_isWorth 431 = .ok (.lload 15, 2) := by decide +kernel
theorem dL_isWorth_433 : decode cL_isWorth 433 = .ok (.lload 17, 2) := by decide +kernel
theorem dL_isWorth_435 : decode cL_isWorth 435 = .ok (.ladd, 1) := by decide +kernel
theorem dL_isWorth_436 : decode cL_isWorth 436 = .ok (.lcmp, 1) := by decide +kernel
theorem dL_isWorth_437 : decode cL_isWorth 437 = .ok (.ifCond .lt 33, 3) := by decide +kernel
theorem dL_isWorth_44 : decode cL_isWorth 44 = .ok (.isub, 1) := by decide +kernel
theorem dL_isWorth_440 : decode cL_isWorth 440 = .ok (.lload 19, 2) := by decide +kernel
theorem dL_isWorth_442 : decode cL_isWorth 442 = .ok (.lload 15, 2) := by decide +kernel
theorem dL_isWorth_444 : decode cL_isWorth 444 = .ok (.lload 17, 2) := by decide +kernel
theorem dL_isWorth_446 : decode cL_isWorth 446 = .ok (.ladd, 1) := by decide +kernel
theorem dL_isWorth_447 : decode cL_isWorth 447 = .ok (.lconst 1, 1) := by decide +kernel
theorem dL_isWorth_448 : decode cL_isWorth 448 = .ok (.ladd, 1) := by decide +kernel
theorem dL_isWorth_449 : decode cL_isWorth 449 = .ok (.lcmp, 1) := by decide +kernel
theorem dL_isWorth_45 : decode cL_isWorth 45 = .ok (.i2l, 1) := by decide +kernel
theorem dL_isWorth_450 : decode cL_isWorth 450 = .ok (.ifCond .gt 20, 3) := by decide +kernel
theorem dL_isWorth_453 : decode cL_isWorth 453 = .ok (.aload_n 0, 1) := by decide +kernel
theorem dL_isWorth_454 : decode cL_isWorth 454 = .ok (.aload_n 1, 1) := by decide +kernel
theorem dL_isWorth_455 : decode cL_isWorth 455 = .ok (.bipush 41, 2) := by decide +kernel
theorem dL_isWorth_457 : decode cL_isWorth 457 = .ok (.invokestatic 13, 3) := by decide +kernel
theorem dL_isWorth_46 : decode cL_isWorth 46 = .ok (.lastore, 1) := by decide +kernel
theorem dL_isWorth_460 : decode cL_isWorth 460 = .ok (.iconst 0, 1) := by decide +kernel
theorem dL_isWorth_461 : decode cL_isWorth 461 = .ok (.invokevirtual 31, 3) := by decide +kernel
theorem dL_isWorth_464 : decode cL_isWorth 464 = .ok (.lload 11, 2) := by decide +kernel
theorem dL_isWorth_466 : decode cL_isWorth 466 = .ok (.lcmp, 1) := by decide +kernel
theorem dL_isWorth_467 : decode cL_isWorth 467 = .ok (.ifCond .eq 5, 3) := by decide +kernel
theorem dL_isWorth_47 : decode cL_isWorth 47 = .ok (.iinc 4 1, 3) := by decide +kernel
theorem dL_isWorth_472 : decode cL_isWorth 472 = .ok (.aload_n 0, 1) := by decide +kernel
theorem dL_isWorth_473 : decode cL_isWorth 473 = .ok (.iconst 2, 1) := by decide +kernel
theorem dL_isWorth_474 : decode cL_isWorth 474 = .ok (.invokevirtual 105, 3) := by decide +kernel
theorem dL_isWorth_477 : decode cL_isWorth 477 = .ok (.istore 13, 2) := by decide +kernel
theorem dL_isWorth_479 : decode cL_isWorth 479 = .ok (.aload_n 0, 1) := by decide +kernel
theorem dL_isWorth_480 : decode cL_isWorth 480 = .ok (.iload 14, 2) := by decide +kernel
theorem dL_isWorth_482 : decode cL_isWorth 482 = .ok (.iload 4, 2) := by decide +kernel
theorem dL_isWorth_484 : decode cL_isWorth 484 = .ok (.invokevirtual 31, 3) := by decide +kernel
theorem dL_isWorth_487 : decode cL_isWorth 487 = .ok (.lstore 21, 2) := by decide +kernel
theorem dL_isWorth_489 : decode cL_isWorth 489 = .ok (.lload 21, 2) := by decide +kernel
theorem dL_isWorth_491 : decode cL_isWorth 491 = .ok (.lload 19, 2) := by decide +kernel
theorem dL_isWorth_493 : decode cL_isWorth 493 = .ok (.lcmp, 1) := by decide +kernel
theorem dL_isWorth_494 : decode cL_isWorth 494 = .ok (.ifCond .lt 13, 3) := by decide +kernel
theorem dL_isWorth_497 : decode cL_isWorth 497 = .ok (.lload 21, 2) := by decide +kernel
theorem dL_isWorth_499 : decode cL_isWorth 499 = .ok (.lload 19, 2) := by decide +kernel
theorem dL_isWorth_5 : decode cL_isWorth 5 = .ok (.bipush 41, 2) := by decide +kernel
theorem dL_isWorth_50 : decode cL_isWorth 50 = .ok (.goto (-36), 3) := by decide +kernel
theorem dL_isWorth_501 : decode cL_isWorth 501 = .ok (.lconst 1, 1) := by decide +kernel
theorem dL_isWorth_502 : decode cL_isWorth 502 = .ok (.ladd, 1) := by decide +kernel
theorem dL_isWorth_503 : decode cL_isWorth 503 = .ok (.lcmp, 1) := by decide +kernel
theorem dL_isWorth_504 : decode cL_isWorth 504 = .ok (.ifCond .le 5, 3) := by decide +kernel
theorem dL_isWorth_509 : decode cL_isWorth 509 = .ok (.iload 14, 2) := by decide +kernel
theorem dL_isWorth_511 : decode cL_isWorth 511 = .ok (.bipush 40, 2) := by decide +kernel
theorem dL_isWorth_513 : decode cL_isWorth 513 = .ok (.if_icmp .ge 91, 3) := by decide +kernel
theorem dL_isWorth_516 : decode cL_isWorth 516 = .ok (.aload_n 0, 1) := by decide +kernel
theorem dL_isWorth_517 : decode cL_isWorth 517 = .ok (.iload 4, 2) := by decide +kernel
theorem dL_isWorth_519 : decode cL_isWorth 519 = .ok (.invokevirtual 118, 3) := by decide +kernel
theorem dL_isWorth_522 : decode cL_isWorth 522 = .ok (.ifCond .eq 82, 3) := by decide +kernel
theorem dL_isWorth_525 : decode cL_isWorth 525 = .ok (.lload 19, 2) := by decide +kernel
theorem dL_isWorth_527 : decode cL_isWorth 527 = .ok (.invokestatic 186, 3) := by decide +kernel
theorem dL_isWorth_53 : decode cL_isWorth 53 = .ok (.aload_n 0, 1) := by decide +kernel
theorem dL_isWorth_530 : decode cL_isWorth 530 = .ok (.ldc2_w 189, 3) := by decide +kernel
theorem dL_isWorth_533 : decode cL_isWorth 533 = .ok (.lcmp, 1) := by decide +kernel
theorem dL_isWorth_534 : decode cL_isWorth 534 = .ok (.ifCond .ge 70, 3) := by decide +kernel
theorem dL_isWorth_537 : decode cL_isWorth 537 = .ok (.aload_n 0, 1) := by decide +kernel
theorem dL_isWorth_538 : decode cL_isWorth 538 = .ok (.iload 14, 2) := by decide +kernel
theorem dL_isWorth_54 : decode cL_isWorth 54 = .ok (.aload_n 3, 1) := by decide +kernel
theorem dL_isWorth_540 : decode cL_isWorth 540 = .ok (.iconst 1, 1) := by decide +kernel
theorem dL_isWorth_541 : decode cL_isWorth 541 = .ok (.iadd, 1) := by decide +kernel
theorem dL_isWorth_542 : decode cL_isWorth 542 = .ok (.iload 4, 2) := by decide +kernel
theorem dL_isWorth_544 : decode cL_isWorth 544 = .ok (.invokevirtual 31, 3) := by decide +kernel
theorem dL_isWorth_547 : decode cL_isWorth 547 = .ok (.lstore 23, 2) := by decide +kernel
theorem dL_isWorth_549 : decode cL_isWorth 549 = .ok (.lload 23, 2) := by decide +kernel
theorem dL_isWorth_55 : decode cL_isWorth 55 = .ok (.invokestatic 170, 3) := by decide +kernel
theorem dL_isWorth_551 : decode cL_isWorth 551 = .ok (.lload 21, 2) := by decide +kernel
theorem dL_isWorth_553 : decode cL_isWorth 553 = .ok (.lload 5, 2) := by decide +kernel
theorem dL_isWorth_555 : decode cL_isWorth 555 = .ok (.lmul, 1) := by decide +kernel
theorem dL_isWorth_556 : decode cL_isWorth 556 = .ok (.ldc2_w 177, 3) := by decide +kernel
theorem dL_isWorth_559 : decode cL_isWorth 559 = .ok (.iconst 2, 1) := by decide +kernel
theorem dL_isWorth_560 : decode cL_isWorth 560 = .ok (.invokestatic 158, 3) := by decide +kernel
theorem dL_isWorth_563 : decode cL_isWorth 563 = .ok (.lcmp, 1) := by decide +kernel
theorem dL_isWorth_564 : decode cL_isWorth 564 = .ok (.ifCond .le 5, 3) := by decide +kernel
theorem dL_isWorth_569 : decode cL_isWorth 569 = .ok (.aload_n 0, 1) := by decide +kernel
theorem dL_isWorth_570 : decode cL_isWorth 570 = .ok (.iconst 3, 1) := by decide +kernel
theorem dL_isWorth_571 : decode cL_isWorth 571 = .ok (.invokevirtual 105, 3) := by decide +kernel
theorem dL_isWorth_574 : decode cL_isWorth 574 = .ok (.istore 13, 2) := by decide +kernel
theorem dL_isWorth_576 : decode cL_isWorth 576 = .ok (.aload_n 0, 1) := by decide +kernel
theorem dL_isWorth_577 : decode cL_isWorth 577 = .ok (.iload 14, 2) := by decide +kernel
theorem dL_isWorth_579 : decode cL_isWorth 579 = .ok (.iconst 1, 1) := by decide +kernel
theorem dL_isWorth_58 : decode cL_isWorth 58 = .ok (.aload_n 1, 1) := by decide +kernel
theorem dL_isWorth_580 : decode cL_isWorth 580 = .ok (.iadd, 1) := by decide +kernel
theorem dL_isWorth_581 : decode cL_isWorth 581 = .ok (.iload 4, 2) := by decide +kernel
theorem dL_isWorth_583 : decode cL_isWorth 583 = .ok (.invokevirtual 31, 3) := by decide +kernel
theorem dL_isWorth_586 : decode cL_isWorth 586 = .ok (.lload 19, 2) := by decide +kernel
theorem dL_isWorth_588 : decode cL_isWorth 588 = .ok (.lload 5, 2) := by decide +kernel
theorem dL_isWorth_59 : decode cL_isWorth 59 = .ok (.invokestatic 173, 3) := by decide +kernel
theorem dL_isWorth_590 : decode cL_isWorth 590 = .ok (.lmul, 1) := by decide +kernel
theorem dL_isWorth_591 : decode cL_isWorth 591 = .ok (.ldc2_w 177, 3) := by decide +kernel
theorem dL_isWorth_594 : decode cL_isWorth 594 = .ok (.iconst 3, 1) := by decide +kernel
theorem dL_isWorth_595 : decode cL_isWorth 595 = .ok (.invokestatic 158, 3) := by decide +kernel
theorem dL_isWorth_598 : decode cL_isWorth 598 = .ok (.lcmp, 1) := by decide +kernel
theorem dL_isWorth_599 : decode cL_isWorth 599 = .ok (.ifCond .ge 5, 3) := by decide +kernel
theorem dL_isWorth_604 : decode cL_isWorth 604 = .ok (.aload_n 0, 1) := by decide +kernel
theorem dL_isWorth_605 : decode cL_isWorth 605 = .ok (.iload_n 2, 1) := by decide +kernel
theorem dL_isWorth_606 : decode cL_isWorth 606 = .ok (.invokevirtual 105, 3) := by decide +kernel
theorem dL_isWorth_609 : decode cL_isWorth 609 = .ok (.istore 13, 2) := by decide +kernel
theorem dL_isWorth_611 : decode cL_isWorth 611 = .ok (.iconst 1, 1) := by decide +kernel
theorem dL_isWorth_612 : decode cL_isWorth 612 = .ok (.ireturn, 1) := by decide +kernel
theorem dL_isWorth_62 : decode cL_isWorth 62 = .ok (.istore 4, 2) := by decide +kernel
theorem dL_isWorth_64 : decode cL_isWorth 64 = .ok (.ldc2_w 177, 3) := by decide +kernel
theorem dL_isWorth_67 : decode cL_isWorth 67 = .ok (.iload 4, 2) := by decide +kernel
theorem dL_isWorth_69 : decode cL_isWorth 69 = .ok (.i2l, 1) := by decide +kernel
theorem dL_isWorth_7 : decode cL_isWorth 7 = .ok (.newarray .long, 2) := by decide +kernel
theorem dL_isWorth_70 : decode cL_isWorth 70 = .ok (.ladd, 1) := by decide +kernel
theorem dL_isWorth_71 : decode cL_isWorth 71 = .ok (.lstore 5, 2) := by decide +kernel
theorem dL_isWorth_73 : decode cL_isWorth 73 = .ok (.aload_n 3, 1) := by decide +kernel
theorem dL_isWorth_74 : decode cL_isWorth 74 = .ok (.bipush 38, 2) := by decide +kernel
theorem dL_isWorth_76 : decode cL_isWorth 76 = .ok (.laload, 1) := by decide +kernel
theorem dL_isWorth_77 : decode cL_isWorth 77 = .ok (.lload 5, 2) := by decide +kernel
theorem dL_isWorth_79 : decode cL_isWorth 79 = .ok (.lmul, 1) := by decide +kernel
theorem dL_isWorth_80 : decode cL_isWorth 80 = .ok (.lload 5, 2) := by decide +kernel
theorem dL_isWorth_82 : decode cL_isWorth 82 = .ok (.lmul, 1) := by decide +kernel
theorem dL_isWorth_83 : decode cL_isWorth 83 = .ok (.aload_n 3, 1) := by decide +kernel
theorem dL_isWorth_84 : decode cL_isWorth 84 = .ok (.bipush 39, 2) := by decide +kernel
theorem dL_isWorth_86 : decode cL_isWorth 86 = .ok (.laload, 1) := by decide +kernel
theorem dL_isWorth_87 : decode cL_isWorth 87 = .ok (.lload 5, 2) := by decide +kernel
theorem dL_isWorth_89 : decode cL_isWorth 89 = .ok (.lmul, 1) := by decide +kernel
theorem dL_isWorth_9 : decode cL_isWorth 9 = .ok (.astore_n 3, 1) := by decide +kernel
theorem dL_isWorth_90 : decode cL_isWorth 90 = .ok (.ldc2_w 177, 3) := by decide +kernel
theorem dL_isWorth_93 : decode cL_isWorth 93 = .ok (.lmul, 1) := by decide +kernel
theorem dL_isWorth_94 : decode cL_isWorth 94 = .ok (.ladd, 1) := by decide +kernel
theorem dL_isWorth_95 : decode cL_isWorth 95 = .ok (.aload_n 3, 1) := by decide +kernel
theorem dL_isWorth_96 : decode cL_isWorth 96 = .ok (.bipush 40, 2) := by decide +kernel
theorem dL_isWorth_98 : decode cL_isWorth 98 = .ok (.laload, 1) := by decide +kernel
theorem dL_isWorth_99 : decode cL_isWorth 99 = .ok (.ldc2_w 177, 3) := by decide +kernel
set_option maxRecDepth 20000 in
theorem ggL_isWorth_J13_signum_95d88 : GoodIn wsL_isWorth wsJ13_signum_95d88 := goodIn_r _ [606] (by decide +kernel) (by decide +kernel)
set_option maxRecDepth 20000 in
theorem gL_isWorth_J13_signum_95d88 : GoodIn wsL_isWorth (va_wsS RL 181 yJ13_signum_95d88 wsJ13_signum_95d88) := goodIn_app (goodIn_of _ (by decide +kernel)) ggL_isWorth_J13_signum_95d88
set_option maxRecDepth 20000 in
theorem gpL_isWorth_L_asks_wsL_asks_r1 : GoodIn wsL_isWorth wsL_asks_r1 := goodIn_r _ [83, 84, 85, 86, 87, 88, 89, 90, 91, 16, 92, 93, 94, 95, 96, 18, 55, 56, 57, 58, 59, 60, 61, 62] (by decide +kernel) (by decide +kernel)
theorem gpL_isWorth_L_asks_wsL_asks_r2 : GoodIn wsL_isWorth wsL_asks_r2 := goodIn_r _ [97, 98, 99, 100, 101, 102, 9, 10, 11, 103, 104, 105, 106, 107, 108, 109, 110, 69, 70, 71, 72, 111, 112, 113] (by decide +kernel) (by decide +kernel)
theorem gpL_isWorth_L_asks_wsL_asks_r3 : GoodIn wsL_isWorth wsL_asks_r3 := goodIn_r _ [114, 115, 48, 49, 50, 51, 52, 53, 54, 33, 63, 64, 65, 37, 66, 39, 67, 68, 73, 74, 75, 76, 116, 117] (by decide +kernel) (by decide +kernel)
theorem gpL_isWorth_L_asks_wsL_asks_r4 : GoodIn wsL_isWorth wsL_asks_r4 := goodIn_r _ [118, 119, 120, 121, 122, 34, 35, 36, 38, 123, 124, 125, 126, 127, 128, 129, 130, 131, 132, 133, 134, 135, 136, 137] (by decide +kernel) (by decide +kernel)
theorem gpL_isWorth_L_asks_wsL_asks_r5 : GoodIn wsL_isWorth wsL_asks_r5 := goodIn_r _ [138, 139, 140, 141, 142, 143, 144, 145, 146, 147, 148, 149, 150, 151, 152, 153, 154, 155, 156, 157, 158, 159, 160, 161] (by decide +kernel) (by decide +kernel)
theorem gpL_isWorth_L_asks_wsL_asks_r6 : GoodIn wsL_isWorth wsL_asks_r6 := goodIn_r _ [162, 163, 164, 165, 166, 167, 168, 169, 170, 171, 172, 173, 174, 175, 176, 177, 178, 179, 180, 181, 182, 183, 184, 185] (by decide +kernel) (by decide +kernel)
theorem gpL_isWorth_L_asks_wsL_asks_r7 : GoodIn wsL_isWorth wsL_asks_r7 := goodIn_r _ [186, 187, 188, 189, 190, 191, 192, 193, 194, 195, 196, 197, 46, 198, 199, 200, 201, 202, 203, 204, 1, 205, 206, 207] (by decide +kernel) (by decide +kernel)
theorem gpL_isWorth_L_asks_wsL_asks_r8 : GoodIn wsL_isWorth wsL_asks_r8 := goodIn_r _ [208, 209, 210, 211, 212, 213, 214, 215, 216, 217, 218, 219, 220, 221, 222, 223, 224, 225, 226, 227, 228, 229, 230, 231] (by decide +kernel) (by decide +kernel)
theorem gpL_isWorth_L_asks_wsL_asks_r9 : GoodIn wsL_isWorth wsL_asks_r9 := goodIn_r _ [232, 233, 234, 235, 236, 237, 238, 239, 240, 241, 242, 243, 244, 245, 246, 247, 248, 249, 250, 251, 252, 253, 254, 255] (by decide +kernel) (by decide +kernel)
theorem gpL_isWorth_L_asks_wsL_asks_r10 : GoodIn wsL_isWorth wsL_asks_r10 := goodIn_r _ [256, 257, 258, 259, 260, 261, 262, 263, 264, 265, 266, 267, 268, 269, 270, 271, 272, 273, 274, 275, 276, 277, 278, 279] (by decide +kernel) (by decide +kernel)
theorem gpL_isWorth_L_asks_wsL_asks_r11 : GoodIn wsL_isWorth wsL_asks_r11 := goodIn_r _ [280, 281, 282, 283, 284, 285, 286, 287, 288, 289, 290, 291, 292, 293, 294, 295, 296, 297, 298, 299, 300, 301, 302, 303] (by decide +kernel) (by decide +kernel)
theorem gpL_isWorth_L_asks_wsL_asks_r12 : GoodIn wsL_isWorth wsL_asks_r12 := goodIn_r _ [304, 305, 306, 307, 308, 309, 310, 311, 312, 313, 314, 315, 316, 317, 318, 319, 320, 321, 322, 323, 324, 325, 326, 327] (by decide +kernel) (by decide +kernel)
theorem gpL_isWorth_L_asks_wsL_asks_r13 : GoodIn wsL_isWorth wsL_asks_r13 := goodIn_r _ [328, 329, 330, 331, 332, 333, 334, 335, 336, 337, 338, 339, 340, 341, 342, 343, 344, 345, 346, 347, 348, 349, 350, 351] (by decide +kernel) (by decide +kernel)
theorem gpL_isWorth_L_asks_wsL_asks_r14 : GoodIn wsL_isWorth wsL_asks_r14 := goodIn_r _ [352, 353, 354, 355, 356, 357, 358, 359, 360, 361, 362, 363, 364, 365, 366, 367, 368, 369, 370, 371, 372, 373, 374, 375] (by decide +kernel) (by decide +kernel)
theorem gpL_isWorth_L_asks_wsL_asks_r15 : GoodIn wsL_isWorth wsL_asks_r15 := goodIn_r _ [376, 377, 378, 379, 380, 381, 382, 383, 384, 385, 386, 387, 388, 389, 390, 391, 392, 393, 394, 395, 396, 397, 398, 399] (by decide +kernel) (by decide +kernel)
theorem gpL_isWorth_L_asks_wsL_asks_r16 : GoodIn wsL_isWorth wsL_asks_r16 := goodIn_r _ [400, 401, 402, 403, 404, 405, 406, 407, 408, 409, 410, 411, 412, 413, 414, 415, 416, 417, 418, 419, 420, 421, 422, 423] (by decide +kernel) (by decide +kernel)
theorem gpL_isWorth_L_asks_wsL_asks_r17 : GoodIn wsL_isWorth wsL_asks_r17 := goodIn_r _ [424, 425, 426, 427, 428, 429, 430, 431, 432, 433, 434, 435, 436, 437, 438, 439, 440, 441, 442, 443, 444, 445, 446, 447] (by decide +kernel) (by decide +kernel)
theorem gpL_isWorth_L_asks_wsL_asks_r18 : GoodIn wsL_isWorth wsL_asks_r18 := goodIn_r _ [448, 449, 450, 451, 452, 453, 454, 455, 456, 457, 458, 459, 460, 461, 462, 463, 464, 465, 466, 467, 468, 469, 470, 471] (by decide +kernel) (by decide +kernel)
theorem gpL_isWorth_L_asks_wsL_asks_r19 : GoodIn wsL_isWorth wsL_asks_r19 := goodIn_r _ [472, 473, 474, 475, 476, 477, 478, 479, 480, 481, 482, 483, 484, 485, 486, 487, 488, 489, 490, 491, 492, 493, 494, 495] (by decide +kernel) (by decide +kernel)
theorem gpL_isWorth_L_asks_wsL_asks_r20 : GoodIn wsL_isWorth wsL_asks_r20 := goodIn_r _ [496, 497, 498, 499, 500, 501, 502, 503, 504, 505, 506, 507, 508, 509, 510, 511, 512, 513, 514, 515, 516, 517, 518, 519] (by decide +kernel) (by decide +kernel)
theorem gpL_isWorth_L_asks_wsL_asks_r21 : GoodIn wsL_isWorth wsL_asks_r21 := goodIn_r _ [520, 521, 522, 523, 524, 525, 526, 527, 528, 529, 530, 531, 532, 533, 534, 535, 536, 537, 538, 539, 540, 541, 542, 543] (by decide +kernel) (by decide +kernel)
theorem gpL_isWorth_L_asks_wsL_asks_r22 : GoodIn wsL_isWorth wsL_asks_r22 := goodIn_r _ [544, 545, 546, 547, 548, 549, 550, 551, 552, 553, 554, 555, 556, 557, 558, 559, 560, 561, 562, 563, 564, 565, 566, 567] (by decide +kernel) (by decide +kernel)
theorem gpL_isWorth_L_asks_wsL_asks_r23 : GoodIn wsL_isWorth wsL_asks_r23 := goodIn_r _ [19, 568, 569, 570, 571, 572, 573, 574, 575, 576, 577, 578, 579, 580, 581, 582, 583, 584, 585, 586, 587, 588, 589, 590] (by decide +kernel) (by decide +kernel)
theorem gpL_isWorth_L_asks_wsL_asks_r24 : GoodIn wsL_isWorth wsL_asks_r24 := goodIn_r _ [591] (by decide +kernel) (by decide +kernel)
theorem gpL_isWorth_L_asks_wsX90 : GoodIn wsL_isWorth wsX90 := goodIn_r _ [607, 608, 609, 610, 611, 612, 613, 614] (by decide +kernel) (by decide +kernel)
theorem gpL_isWorth_L_asks_wsX40 : GoodIn wsL_isWorth wsX40 := goodIn_r _ [615] (by decide +kernel) (by decide +kernel)
theorem gpL_isWorth_L_asks_wsX50 : GoodIn wsL_isWorth wsX50 := goodIn_r _ [616, 617, 618] (by decide +kernel) (by decide +kernel)
theorem gpL_isWorth_L_asks_wsX10 : GoodIn wsL_isWorth wsX10 := goodIn_r _ [619, 620, 621, 622, 623, 624] (by decide +kernel) (by decide +kernel)
theorem gpL_isWorth_L_asks_wsX80 : GoodIn wsL_isWorth wsX80 := goodIn_r _ [625, 626, 627] (by decide +kernel) (by decide +kernel)
theorem gpL_isWorth_L_asks_wsX30 : GoodIn wsL_isWorth wsX30 := goodIn_r _ [628, 629, 630, 631, 632, 633, 634, 635] (by decide +kernel) (by decide +kernel)
theorem gpL_isWorth_L_asks_wsX00 : GoodIn wsL_isWorth wsX00 := goodIn_r _ [636] (by decide +kernel) (by decide +kernel)
theorem gpL_isWorth_L_asks_wsX20 : GoodIn wsL_isWorth wsX20 := goodIn_r _ [637, 638, 639, 640] (by decide +kernel) (by decide +kernel)
theorem gpL_isWorth_L_asks_wsX60 : GoodIn wsL_isWorth wsX60 := goodIn_r _ [641, 642] (by decide +kernel) (by decide +kernel)
theorem gpL_isWorth_L_asks_wsX70 : GoodIn wsL_isWorth wsX70 := goodIn_r _ [643, 644, 645] (by decide +kernel) (by decide +kernel)
theorem ggL_isWorth_L_asks : GoodIn wsL_isWorth wsL_asks := goodIn_ca (goodIn_ca (goodIn_ca (goodIn_cons (goodIn_r [_] [82] (by decide +kernel) (by decide +kernel)) (goodIn_app (goodIn_app (goodIn_app (goodIn_app (goodIn_app (goodIn_app (goodIn_app (goodIn_app (goodIn_app (goodIn_app (goodIn_app gpL_isWorth_L_asks_wsL_asks_r1 (goodIn_app gpL_isWorth_L_asks_wsL_asks_r2 (goodIn_app gpL_isWorth_L_asks_wsL_asks_r3 (goodIn_app gpL_isWorth_L_asks_wsL_asks_r4 (goodIn_app gpL_isWorth_L_asks_wsL_asks_r5 (goodIn_app gpL_isWorth_L_asks_wsL_asks_r6 (goodIn_app gpL_isWorth_L_asks_wsL_asks_r7 (goodIn_app gpL_isWorth_L_asks_wsL_asks_r8 (goodIn_app gpL_isWorth_L_asks_wsL_asks_r9 (goodIn_app gpL_isWorth_L_asks_wsL_asks_r10 (goodIn_app gpL_isWorth_L_asks_wsL_asks_r11 (goodIn_app gpL_isWorth_L_asks_wsL_asks_r12 (goodIn_app gpL_isWorth_L_asks_wsL_asks_r13 (goodIn_app gpL_isWorth_L_asks_wsL_asks_r14 (goodIn_app gpL_isWorth_L_asks_wsL_asks_r15 (goodIn_app gpL_isWorth_L_asks_wsL_asks_r16 (goodIn_app gpL_isWorth_L_asks_wsL_asks_r17 (goodIn_app gpL_isWorth_L_asks_wsL_asks_r18 (goodIn_app gpL_isWorth_L_asks_wsL_asks_r19 (goodIn_app gpL_isWorth_L_asks_wsL_asks_r20 (goodIn_app gpL_isWorth_L_asks_wsL_asks_r21 (goodIn_app gpL_isWorth_L_asks_wsL_asks_r22 (goodIn_app gpL_isWorth_L_asks_wsL_asks_r23 (gpL_isWorth_L_asks_wsL_asks_r24)))))))))))))))))))))))) gpL_isWorth_L_asks_wsX90) gpL_isWorth_L_asks_wsX40) gpL_isWorth_L_asks_wsX50) gpL_isWorth_L_asks_wsX10) gpL_isWorth_L_asks_wsX80) gpL_isWorth_L_asks_wsX30) gpL_isWorth_L_asks_wsX00) gpL_isWorth_L_asks_wsX20) gpL_isWorth_L_asks_wsX60) gpL_isWorth_L_asks_wsX70)) (goodIn_sub (fun _ h => List.mem_cons_of_mem _ (List.mem_append_left _ (List.mem_append_left _ (List.mem_append_right _ h)))) (by decide +kernel))) (goodIn_sub (fun _ h => List.mem_cons_of_mem _ (List.mem_append_left _ (List.mem_append_right _ h))) (by decide +kernel))) (goodIn_sub (fun _ h => List.mem_cons_of_mem _ (List.mem_append_right _ h)) (by decide +kernel))
set_option maxRecDepth 20000 in
theorem gL_isWorth_L_asks : GoodIn wsL_isWorth (va_wsS RL 161 yL_asks wsL_asks) := goodIn_app (goodIn_of _ (by decide +kernel)) ggL_isWorth_L_asks
set_option maxRecDepth 20000 in
theorem ggL_isWorth_L_draw : GoodIn wsL_isWorth wsL_draw := goodIn_r _ [23, 24, 25] (by decide +kernel) (by decide +kernel)
set_option maxRecDepth 20000 in
theorem gL_isWorth_L_draw : GoodIn wsL_isWorth (va_wsS RL 13 yL_draw wsL_draw) := goodIn_app (goodIn_of _ (by decide +kernel)) ggL_isWorth_L_draw
set_option maxRecDepth 20000 in
theorem ggL_isWorth_L_rate : GoodIn wsL_isWorth wsL_rate := goodIn_r _ [79, 20, 21, 22, 23, 24, 25] (by decide +kernel) (by decide +kernel)
set_option maxRecDepth 20000 in
theorem gL_isWorth_L_rate : GoodIn wsL_isWorth (va_wsS RL 173 yL_rate wsL_rate) := goodIn_app (goodIn_of _ (by decide +kernel)) ggL_isWorth_L_rate
set_option maxRecDepth 20000 in
theorem ggL_isWorth_L_rounded : GoodIn wsL_isWorth wsL_rounded := goodIn_r _ [594, 595, 88, 596, 597, 598, 599, 600, 601, 602, 603] (by decide +kernel) (by decide +kernel)
set_option maxRecDepth 20000 in
theorem gL_isWorth_L_rounded : GoodIn wsL_isWorth (va_wsS RL 158 yL_rounded wsL_rounded) := goodIn_app (goodIn_of _ (by decide +kernel)) ggL_isWorth_L_rounded
set_option maxRecDepth 20000 in
theorem ggL_isWorth_L_rows : GoodIn wsL_isWorth wsL_rows := goodIn_ca (goodIn_ca (goodIn_r _ [28, 29, 30, 31, 16, 32, 33, 34, 35, 36, 37, 38, 39, 40, 41, 42, 43, 44, 45, 46, 47, 48, 49, 50, 51, 52, 53, 54, 55, 56, 57, 58, 59, 60, 61, 62, 63, 64, 65, 66, 67, 68, 69, 70, 71, 72, 73, 74, 75, 76, 607, 608, 609, 610, 611, 612, 613, 614, 616, 617, 618] (by decide +kernel) (by decide +kernel)) (goodIn_sub (fun _ h => List.mem_cons_of_mem _ (List.mem_append_left _ (List.mem_append_left _ (List.mem_append_right _ h)))) (by decide +kernel))) (goodIn_sub (fun _ h => List.mem_cons_of_mem _ (List.mem_append_left _ (List.mem_append_right _ h))) (by decide +kernel))
set_option maxRecDepth 20000 in
theorem gL_isWorth_L_rows : GoodIn wsL_isWorth (va_wsS RL 170 yL_rows wsL_rows) := goodIn_app (goodIn_of _ (by decide +kernel)) ggL_isWorth_L_rows
set_option maxRecDepth 20000 in
theorem ggL_isWorth_X9_mode : GoodIn wsL_isWorth wsX9_mode := goodIn_r _ [17, 18, 19, 607, 608, 609, 610, 611, 612, 613, 614, 615] (by decide +kernel) (by decide +kernel)
set_option maxRecDepth 20000 in
theorem gL_isWorth_X9_mode : GoodIn wsL_isWorth (wsV RL 147 RX9 yX9_mode wsX9_mode) := goodIn_app (goodIn_of _ (by decide +kernel)) ggL_isWorth_X9_mode
set_option maxRecDepth 20000 in
theorem ggL_isWorth_X9_pay : GoodIn wsL_isWorth wsX9_pay := goodIn_ca (goodIn_ca (goodIn_r _ [51, 52, 53, 54, 33, 55, 56, 16, 57, 58, 59, 60, 61, 62, 63, 64, 65, 37, 66, 39, 67, 68, 69, 70, 71, 72, 73, 74, 75, 76, 607, 608, 609, 610, 611, 612, 613, 614, 616, 617, 618] (by decide +kernel) (by decide +kernel)) (goodIn_sub (fun _ h => List.mem_cons_of_mem _ (List.mem_append_left _ (List.mem_append_left _ (List.mem_append_right _ h)))) (by decide +kernel))) (goodIn_sub (fun _ h => List.mem_cons_of_mem _ (List.mem_append_left _ (List.mem_append_right _ h))) (by decide +kernel))
set_option maxRecDepth 20000 in
theorem gL_isWorth_X9_pay : GoodIn wsL_isWorth (wsV RL 23 RX9 yX9_pay wsX9_pay) := goodIn_app (goodIn_of _ (by decide +kernel)) ggL_isWorth_X9_pay
set_option maxRecDepth 20000 in
theorem ggL_isWorth_X9_setMode : GoodIn wsL_isWorth wsX9_setMode := goodIn_ca (goodIn_r _ [566, 567, 18, 19, 55, 56, 16, 57, 58, 59, 60, 61, 62, 607, 608, 609, 610, 611, 612, 613, 614, 615] (by decide +kernel) (by decide +kernel)) (goodIn_sub (fun _ h => List.mem_cons_of_mem _ (List.mem_append_left _ (List.mem_append_left _ (List.mem_append_right _ h)))) (by decide +kernel))
set_option maxRecDepth 20000 in
theorem gL_isWorth_X9_setMode : GoodIn wsL_isWorth (wsV RL 105 RX9 yX9_setMode wsX9_setMode) := goodIn_app (goodIn_of _ (by decide +kernel)) ggL_isWorth_X9_setMode
set_option maxRecDepth 20000 in
theorem ggL_isWorth_X9_signAt : GoodIn wsL_isWorth wsX9_signAt := goodIn_ca (goodIn_r _ [590, 33, 127, 128, 16, 129, 130, 55, 56, 57, 58, 59, 60, 61, 62, 591, 277, 278, 37, 279, 138, 140, 141, 142, 143, 144, 39, 145, 146, 147, 148, 149, 150, 151, 152, 153, 154, 155, 156, 157, 158, 159, 160, 10, 161, 162, 163, 164, 165, 166, 167, 168, 169, 170, 171, 172, 173, 174, 175, 176, 177, 178, 179, 180, 181, 182, 183, 184, 185, 186, 187, 188, 189, 190, 191, 192, 193, 194, 195, 196, 197, 46, 198, 199, 200, 201, 202, 203, 204, 1, 205, 206, 207, 208, 209, 210, 211, 212, 213, 214, 215, 216, 136, 137, 280, 234, 235, 236, 607, 608, 609, 610, 611, 612, 613, 614, 616, 617, 618, 619, 620, 621, 622, 623, 624, 625, 626, 627] (by decide +kernel) (by decide +kernel)) (goodIn_sub (fun _ h => List.mem_cons_of_mem _ (List.mem_append_left _ (List.mem_append_left _ (List.mem_append_right _ h)))) (by decide +kernel))
set_option maxRecDepth 20000 in
theorem gL_isWorth_X9_signAt : GoodIn wsL_isWorth (wsV RL 118 RX9 yX9_signAt wsX9_signAt) := goodIn_app (goodIn_of _ (by decide +kernel)) ggL_isWorth_X9_signAt
set_option maxRecDepth 20000 in
theorem gpL_isWorth_X9_worth_wsX9_worth_r1 : GoodIn wsL_isWorth wsX9_worth_r1 := goodIn_r _ [52, 33, 18, 55, 56, 16, 57, 58, 59, 60, 61, 62, 127, 128, 129, 130, 131, 132, 133, 37, 134, 135, 136, 10] (by decide +kernel) (by decide +kernel)
theorem gpL_isWorth_X9_worth_wsX9_worth_r2 : GoodIn wsL_isWorth wsX9_worth_r2 := goodIn_r _ [137, 138, 139, 140, 141, 142, 143, 144, 39, 145, 146, 147, 148, 149, 150, 151, 152, 153, 154, 155, 156, 157, 158, 159] (by decide +kernel) (by decide +kernel)
theorem gpL_isWorth_X9_worth_wsX9_worth_r3 : GoodIn wsL_isWorth wsX9_worth_r3 := goodIn_r _ [160, 161, 162, 163, 164, 165, 166, 167, 168, 169, 170, 171, 172, 173, 174, 175, 176, 177, 178, 179, 180, 181, 182, 183] (by decide +kernel) (by decide +kernel)
theorem gpL_isWorth_X9_worth_wsX9_worth_r4 : GoodIn wsL_isWorth wsX9_worth_r4 := goodIn_r _ [184, 185, 186, 187, 188, 189, 190, 191, 192, 193, 194, 195, 196, 197, 46, 198, 199, 200, 201, 202, 203, 204, 1, 205] (by decide +kernel) (by decide +kernel)
theorem gpL_isWorth_X9_worth_wsX9_worth_r5 : GoodIn wsL_isWorth wsX9_worth_r5 := goodIn_r _ [206, 207, 208, 209, 210, 211, 212, 213, 214, 215, 216, 217, 218, 219, 220, 221, 222, 223, 224, 225, 226, 227, 228, 229] (by decide +kernel) (by decide +kernel)
theorem gpL_isWorth_X9_worth_wsX9_worth_r6 : GoodIn wsL_isWorth wsX9_worth_r6 := goodIn_r _ [230, 100, 231, 232, 115, 233, 234, 235, 236, 237, 238, 239, 240, 241, 242, 243, 244, 245, 246, 247, 248, 249, 250, 251] (by decide +kernel) (by decide +kernel)
theorem gpL_isWorth_X9_worth_wsX9_worth_r7 : GoodIn wsL_isWorth wsX9_worth_r7 := goodIn_r _ [252, 253, 254, 255, 256, 257, 103, 104, 105, 106, 107, 108, 109, 110, 69, 70, 71, 72, 111, 112, 113, 114] (by decide +kernel) (by decide +kernel)
theorem gpL_isWorth_X9_worth_wsX90 : GoodIn wsL_isWorth wsX90 := goodIn_r _ [607, 608, 609, 610, 611, 612, 613, 614] (by decide +kernel) (by decide +kernel)
theorem gpL_isWorth_X9_worth_wsX50 : GoodIn wsL_isWorth wsX50 := goodIn_r _ [616, 617, 618] (by decide +kernel) (by decide +kernel)
theorem gpL_isWorth_X9_worth_wsX10 : GoodIn wsL_isWorth wsX10 := goodIn_r _ [619, 620, 621, 622, 623, 624] (by decide +kernel) (by decide +kernel)
theorem gpL_isWorth_X9_worth_wsX80 : GoodIn wsL_isWorth wsX80 := goodIn_r _ [625, 626, 627] (by decide +kernel) (by decide +kernel)
theorem gpL_isWorth_X9_worth_wsX40 : GoodIn wsL_isWorth wsX40 := goodIn_r _ [615] (by decide +kernel) (by decide +kernel)
theorem ggL_isWorth_X9_worth : GoodIn wsL_isWorth wsX9_worth := goodIn_ca (goodIn_ca (goodIn_cons (goodIn_r [_] [126] (by decide +kernel) (by decide +kernel)) (goodIn_app (goodIn_app (goodIn_app (goodIn_app (goodIn_app (goodIn_app gpL_isWorth_X9_worth_wsX9_worth_r1 (goodIn_app gpL_isWorth_X9_worth_wsX9_worth_r2 (goodIn_app gpL_isWorth_X9_worth_wsX9_worth_r3 (goodIn_app gpL_isWorth_X9_worth_wsX9_worth_r4 (goodIn_app gpL_isWorth_X9_worth_wsX9_worth_r5 (goodIn_app gpL_isWorth_X9_worth_wsX9_worth_r6 (gpL_isWorth_X9_worth_wsX9_worth_r7))))))) gpL_isWorth_X9_worth_wsX90) gpL_isWorth_X9_worth_wsX50) gpL_isWorth_X9_worth_wsX10) gpL_isWorth_X9_worth_wsX80) gpL_isWorth_X9_worth_wsX40)) (goodIn_sub (fun _ h => List.mem_cons_of_mem _ (List.mem_append_left _ (List.mem_append_left _ (List.mem_append_right _ h)))) (by decide +kernel))) (goodIn_sub (fun _ h => List.mem_cons_of_mem _ (List.mem_append_left _ (List.mem_append_right _ h))) (by decide +kernel))
set_option maxRecDepth 20000 in
theorem gL_isWorth_X9_worth : GoodIn wsL_isWorth (wsV RL 31 RX9 yX9_worth wsX9_worth) := goodIn_app (goodIn_of _ (by decide +kernel)) ggL_isWorth_X9_worth
