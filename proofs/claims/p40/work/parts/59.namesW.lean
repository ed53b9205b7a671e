-- printed rows that the walks use
theorem dL_isTable_0 : decode cL_isTable 0 = .ok (.aload_n 0, 1) := by decide +kernel
theorem dL_isTable_1 : decode cL_isTable 1 = .ok (.invokevirtual 147, 3) := by decide +kernel
theorem dL_isTable_10 : decode cL_isTable 10 = .ok (.istore 13, 2) := by decide +kernel
theorem dL_isTable_100 : decode cL_isTable 100 = .ok (.iload 10, 2) := by decide +kernel
theorem dL_isTable_102 : decode cL_isTable 102 = .ok (.invokestatic 215, 3) := by decide +kernel
theorem dL_isTable_105 : decode cL_isTable 105 = .ok (.ifCond .ne 5, 3) := by decide +kernel
theorem dL_isTable_110 : decode cL_isTable 110 = .ok (.lload 11, 2) := by decide +kernel
theorem dL_isTable_112 : decode cL_isTable 112 = .ok (.iload 13, 2) := by decide +kernel
theorem dL_isTable_114 : decode cL_isTable 114 = .ok (.i2l, 1) := by decide +kernel
theorem dL_isTable_115 : decode cL_isTable 115 = .ok (.lmul, 1) := by decide +kernel
theorem dL_isTable_116 : decode cL_isTable 116 = .ok (.ldc2_w 177, 3) := by decide +kernel
theorem dL_isTable_119 : decode cL_isTable 119 = .ok (.iload 10, 2) := by decide +kernel
theorem dL_isTable_12 : decode cL_isTable 12 = .ok (.lload 8, 2) := by decide +kernel
theorem dL_isTable_121 : decode cL_isTable 121 = .ok (.invokestatic 158, 3) := by decide +kernel
theorem dL_isTable_124 : decode cL_isTable 124 = .ok (.lstore 18, 2) := by decide +kernel
theorem dL_isTable_126 : decode cL_isTable 126 = .ok (.lload 11, 2) := by decide +kernel
theorem dL_isTable_128 : decode cL_isTable 128 = .ok (.lload 18, 2) := by decide +kernel
theorem dL_isTable_130 : decode cL_isTable 130 = .ok (.ladd, 1) := by decide +kernel
theorem dL_isTable_131 : decode cL_isTable 131 = .ok (.lstore 20, 2) := by decide +kernel
theorem dL_isTable_133 : decode cL_isTable 133 = .ok (.aload 5, 2) := by decide +kernel
theorem dL_isTable_135 : decode cL_isTable 135 = .ok (.iload 17, 2) := by decide +kernel
theorem dL_isTable_137 : decode cL_isTable 137 = .ok (.baload, 1) := by decide +kernel
theorem dL_isTable_138 : decode cL_isTable 138 = .ok (.ifCond .eq 7, 3) := by decide +kernel
theorem dL_isTable_14 : decode cL_isTable 14 = .ok (.lstore 14, 2) := by decide +kernel
theorem dL_isTable_141 : decode cL_isTable 141 = .ok (.lconst 0, 1) := by decide +kernel
theorem dL_isTable_142 : decode cL_isTable 142 = .ok (.goto 22, 3) := by decide +kernel
theorem dL_isTable_145 : decode cL_isTable 145 = .ok (.iload 17, 2) := by decide +kernel
theorem dL_isTable_147 : decode cL_isTable 147 = .ok (.iload 4, 2) := by decide +kernel
theorem dL_isTable_149 : decode cL_isTable 149 = .ok (.if_icmp .ne 8, 3) := by decide +kernel
theorem dL_isTable_152 : decode cL_isTable 152 = .ok (.lload 20, 2) := by decide +kernel
theorem dL_isTable_154 : decode cL_isTable 154 = .ok (.goto 10, 3) := by decide +kernel
theorem dL_isTable_157 : decode cL_isTable 157 = .ok (.lload 20, 2) := by decide +kernel
theorem dL_isTable_159 : decode cL_isTable 159 = .ok (.lload 14, 2) := by decide +kernel
theorem dL_isTable_16 : decode cL_isTable 16 = .ok (.aload_n 0, 1) := by decide +kernel
theorem dL_isTable_161 : decode cL_isTable 161 = .ok (.invokestatic 208, 3) := by decide +kernel
theorem dL_isTable_164 : decode cL_isTable 164 = .ok (.lstore 22, 2) := by decide +kernel
theorem dL_isTable_166 : decode cL_isTable 166 = .ok (.lload 22, 2) := by decide +kernel
theorem dL_isTable_168 : decode cL_isTable 168 = .ok (.aload 5, 2) := by decide +kernel
theorem dL_isTable_17 : decode cL_isTable 17 = .ok (.lload_n 1, 1) := by decide +kernel
theorem dL_isTable_170 : decode cL_isTable 170 = .ok (.iload 17, 2) := by decide +kernel
theorem dL_isTable_172 : decode cL_isTable 172 = .ok (.baload, 1) := by decide +kernel
theorem dL_isTable_173 : decode cL_isTable 173 = .ok (.ifCond .eq 7, 3) := by decide +kernel
theorem dL_isTable_176 : decode cL_isTable 176 = .ok (.lconst 0, 1) := by decide +kernel
theorem dL_isTable_177 : decode cL_isTable 177 = .ok (.goto 16, 3) := by decide +kernel
theorem dL_isTable_18 : decode cL_isTable 18 = .ok (.iload_n 3, 1) := by decide +kernel
theorem dL_isTable_180 : decode cL_isTable 180 = .ok (.aload 7, 2) := by decide +kernel
theorem dL_isTable_182 : decode cL_isTable 182 = .ok (.iload 17, 2) := by decide +kernel
theorem dL_isTable_184 : decode cL_isTable 184 = .ok (.laload, 1) := by decide +kernel
theorem dL_isTable_185 : decode cL_isTable 185 = .ok (.lload 20, 2) := by decide +kernel
theorem dL_isTable_187 : decode cL_isTable 187 = .ok (.lload 22, 2) := by decide +kernel
theorem dL_isTable_189 : decode cL_isTable 189 = .ok (.lsub, 1) := by decide +kernel
theorem dL_isTable_19 : decode cL_isTable 19 = .ok (.iload 4, 2) := by decide +kernel
theorem dL_isTable_190 : decode cL_isTable 190 = .ok (.invokestatic 208, 3) := by decide +kernel
theorem dL_isTable_193 : decode cL_isTable 193 = .ok (.ladd, 1) := by decide +kernel
theorem dL_isTable_194 : decode cL_isTable 194 = .ok (.lstore 22, 2) := by decide +kernel
theorem dL_isTable_196 : decode cL_isTable 196 = .ok (.bipush 7, 2) := by decide +kernel
theorem dL_isTable_198 : decode cL_isTable 198 = .ok (.newarray .long, 2) := by decide +kernel
theorem dL_isTable_200 : decode cL_isTable 200 = .ok (.dup, 1) := by decide +kernel
theorem dL_isTable_201 : decode cL_isTable 201 = .ok (.iconst 0, 1) := by decide +kernel
theorem dL_isTable_202 : decode cL_isTable 202 = .ok (.lload 11, 2) := by decide +kernel
theorem dL_isTable_204 : decode cL_isTable 204 = .ok (.lastore, 1) := by decide +kernel
theorem dL_isTable_205 : decode cL_isTable 205 = .ok (.dup, 1) := by decide +kernel
theorem dL_isTable_206 : decode cL_isTable 206 = .ok (.iconst 1, 1) := by decide +kernel
theorem dL_isTable_207 : decode cL_isTable 207 = .ok (.lload 18, 2) := by decide +kernel
theorem dL_isTable_209 : decode cL_isTable 209 = .ok (.lastore, 1) := by decide +kernel
theorem dL_isTable_21 : decode cL_isTable 21 = .ok (.lload 8, 2) := by decide +kernel
theorem dL_isTable_210 : decode cL_isTable 210 = .ok (.dup, 1) := by decide +kernel
theorem dL_isTable_211 : decode cL_isTable 211 = .ok (.iconst 2, 1) := by decide +kernel
theorem dL_isTable_212 : decode cL_isTable 212 = .ok (.lload 22, 2) := by decide +kernel
theorem dL_isTable_214 : decode cL_isTable 214 = .ok (.lastore, 1) := by decide +kernel
theorem dL_isTable_215 : decode cL_isTable 215 = .ok (.dup, 1) := by decide +kernel
theorem dL_isTable_216 : decode cL_isTable 216 = .ok (.iconst 3, 1) := by decide +kernel
theorem dL_isTable_217 : decode cL_isTable 217 = .ok (.lload 22, 2) := by decide +kernel
theorem dL_isTable_219 : decode cL_isTable 219 = .ok (.lload 18, 2) := by decide +kernel
theorem dL_isTable_221 : decode cL_isTable 221 = .ok (.lsub, 1) := by decide +kernel
theorem dL_isTable_222 : decode cL_isTable 222 = .ok (.lastore, 1) := by decide +kernel
theorem dL_isTable_223 : decode cL_isTable 223 = .ok (.dup, 1) := by decide +kernel
theorem dL_isTable_224 : decode cL_isTable 224 = .ok (.iconst 4, 1) := by decide +kernel
theorem dL_isTable_225 : decode cL_isTable 225 = .ok (.lload 20, 2) := by decide +kernel
theorem dL_isTable_227 : decode cL_isTable 227 = .ok (.lload 22, 2) := by decide +kernel
theorem dL_isTable_229 : decode cL_isTable 229 = .ok (.lsub, 1) := by decide +kernel
theorem dL_isTable_23 : decode cL_isTable 23 = .ok (.iload 10, 2) := by decide +kernel
theorem dL_isTable_230 : decode cL_isTable 230 = .ok (.lastore, 1) := by decide +kernel
theorem dL_isTable_231 : decode cL_isTable 231 = .ok (.dup, 1) := by decide +kernel
theorem dL_isTable_232 : decode cL_isTable 232 = .ok (.iconst 5, 1) := by decide +kernel
theorem dL_isTable_233 : decode cL_isTable 233 = .ok (.iload 13, 2) := by decide +kernel
theorem dL_isTable_235 : decode cL_isTable 235 = .ok (.i2l, 1) := by decide +kernel
theorem dL_isTable_236 : decode cL_isTable 236 = .ok (.lastore, 1) := by decide +kernel
theorem dL_isTable_237 : decode cL_isTable 237 = .ok (.dup, 1) := by decide +kernel
theorem dL_isTable_238 : decode cL_isTable 238 = .ok (.bipush 6, 2) := by decide +kernel
theorem dL_isTable_240 : decode cL_isTable 240 = .ok (.lload 14, 2) := by decide +kernel
theorem dL_isTable_242 : decode cL_isTable 242 = .ok (.lastore, 1) := by decide +kernel
theorem dL_isTable_243 : decode cL_isTable 243 = .ok (.astore 24, 2) := by decide +kernel
theorem dL_isTable_245 : decode cL_isTable 245 = .ok (.iconst 0, 1) := by decide +kernel
theorem dL_isTable_246 : decode cL_isTable 246 = .ok (.istore 25, 2) := by decide +kernel
theorem dL_isTable_248 : decode cL_isTable 248 = .ok (.iload 25, 2) := by decide +kernel
theorem dL_isTable_25 : decode cL_isTable 25 = .ok (.invokestatic 215, 3) := by decide +kernel
theorem dL_isTable_250 : decode cL_isTable 250 = .ok (.bipush 7, 2) := by decide +kernel
theorem dL_isTable_252 : decode cL_isTable 252 = .ok (.if_icmp .ge 28, 3) := by decide +kernel
theorem dL_isTable_255 : decode cL_isTable 255 = .ok (.aload_n 0, 1) := by decide +kernel
theorem dL_isTable_256 : decode cL_isTable 256 = .ok (.iload 17, 2) := by decide +kernel
theorem dL_isTable_258 : decode cL_isTable 258 = .ok (.iload 25, 2) := by decide +kernel
theorem dL_isTable_260 : decode cL_isTable 260 = .ok (.invokevirtual 55, 3) := by decide +kernel
theorem dL_isTable_263 : decode cL_isTable 263 = .ok (.aload 24, 2) := by decide +kernel
theorem dL_isTable_265 : decode cL_isTable 265 = .ok (.iload 25, 2) := by decide +kernel
theorem dL_isTable_267 : decode cL_isTable 267 = .ok (.laload, 1) := by decide +kernel
theorem dL_isTable_268 : decode cL_isTable 268 = .ok (.lcmp, 1) := by decide +kernel
theorem dL_isTable_269 : decode cL_isTable 269 = .ok (.ifCond .eq 5, 3) := by decide +kernel
theorem dL_isTable_274 : decode cL_isTable 274 = .ok (.iinc 25 1, 3) := by decide +kernel
theorem dL_isTable_277 : decode cL_isTable 277 = .ok (.goto (-29), 3) := by decide +kernel
theorem dL_isTable_28 : decode cL_isTable 28 = .ok (.ifCond .ne 5, 3) := by decide +kernel
theorem dL_isTable_280 : decode cL_isTable 280 = .ok (.iconst 1, 1) := by decide +kernel
theorem dL_isTable_281 : decode cL_isTable 281 = .ok (.istore 25, 2) := by decide +kernel
theorem dL_isTable_283 : decode cL_isTable 283 = .ok (.iload 25, 2) := by decide +kernel
theorem dL_isTable_285 : decode cL_isTable 285 = .ok (.iconst 4, 1) := by decide +kernel
theorem dL_isTable_286 : decode cL_isTable 286 = .ok (.if_icmp .ge 22, 3) := by decide +kernel
theorem dL_isTable_289 : decode cL_isTable 289 = .ok (.aload 16, 2) := by decide +kernel
theorem dL_isTable_291 : decode cL_isTable 291 = .ok (.iload 25, 2) := by decide +kernel
theorem dL_isTable_293 : decode cL_isTable 293 = .ok (.dup2, 1) := by decide +kernel
theorem dL_isTable_294 : decode cL_isTable 294 = .ok (.laload, 1) := by decide +kernel
theorem dL_isTable_295 : decode cL_isTable 295 = .ok (.aload 24, 2) := by decide +kernel
theorem dL_isTable_297 : decode cL_isTable 297 = .ok (.iload 25, 2) := by decide +kernel
theorem dL_isTable_299 : decode cL_isTable 299 = .ok (.laload, 1) := by decide +kernel
theorem dL_isTable_300 : decode cL_isTable 300 = .ok (.ladd, 1) := by decide +kernel
theorem dL_isTable_301 : decode cL_isTable 301 = .ok (.lastore, 1) := by decide +kernel
theorem dL_isTable_302 : decode cL_isTable 302 = .ok (.iinc 25 1, 3) := by decide +kernel
theorem dL_isTable_305 : decode cL_isTable 305 = .ok (.goto (-22), 3) := by decide +kernel
theorem dL_isTable_308 : decode cL_isTable 308 = .ok (.lload 20, 2) := by decide +kernel
theorem dL_isTable_310 : decode cL_isTable 310 = .ok (.lload 22, 2) := by decide +kernel
theorem dL_isTable_312 : decode cL_isTable 312 = .ok (.lsub, 1) := by decide +kernel
theorem dL_isTable_313 : decode cL_isTable 313 = .ok (.lstore 11, 2) := by decide +kernel
theorem dL_isTable_315 : decode cL_isTable 315 = .ok (.goto (-274), 3) := by decide +kernel
theorem dL_isTable_318 : decode cL_isTable 318 = .ok (.aload_n 0, 1) := by decide +kernel
theorem dL_isTable_319 : decode cL_isTable 319 = .ok (.invokevirtual 115, 3) := by decide +kernel
theorem dL_isTable_322 : decode cL_isTable 322 = .ok (.iload 17, 2) := by decide +kernel
theorem dL_isTable_324 : decode cL_isTable 324 = .ok (.if_icmp .ne 31, 3) := by decide +kernel
theorem dL_isTable_327 : decode cL_isTable 327 = .ok (.aload 16, 2) := by decide +kernel
theorem dL_isTable_329 : decode cL_isTable 329 = .ok (.iconst 3, 1) := by decide +kernel
theorem dL_isTable_33 : decode cL_isTable 33 = .ok (.iconst 4, 1) := by decide +kernel
theorem dL_isTable_330 : decode cL_isTable 330 = .ok (.laload, 1) := by decide +kernel
theorem dL_isTable_331 : decode cL_isTable 331 = .ok (.lload_n 1, 1) := by decide +kernel
theorem dL_isTable_332 : decode cL_isTable 332 = .ok (.lcmp, 1) := by decide +kernel
theorem dL_isTable_333 : decode cL_isTable 333 = .ok (.ifCond .ne 22, 3) := by decide +kernel
theorem dL_isTable_336 : decode cL_isTable 336 = .ok (.aload_n 0, 1) := by decide +kernel
theorem dL_isTable_337 : decode cL_isTable 337 = .ok (.invokevirtual 219, 3) := by decide +kernel
theorem dL_isTable_34 : decode cL_isTable 34 = .ok (.newarray .long, 2) := by decide +kernel
theorem dL_isTable_340 : decode cL_isTable 340 = .ok (.aload 16, 2) := by decide +kernel
theorem dL_isTable_342 : decode cL_isTable 342 = .ok (.iconst 1, 1) := by decide +kernel
theorem dL_isTable_343 : decode cL_isTable 343 = .ok (.laload, 1) := by decide +kernel
theorem dL_isTable_344 : decode cL_isTable 344 = .ok (.l2f, 1) := by decide +kernel
theorem dL_isTable_345 : decode cL_isTable 345 = .ok (.aload 16, 2) := by decide +kernel
theorem dL_isTable_347 : decode cL_isTable 347 = .ok (.iconst 2, 1) := by decide +kernel
theorem dL_isTable_348 : decode cL_isTable 348 = .ok (.laload, 1) := by decide +kernel
theorem dL_isTable_349 : decode cL_isTable 349 = .ok (.l2f, 1) := by decide +kernel
theorem dL_isTable_350 : decode cL_isTable 350 = .ok (.fdiv, 1) := by decide +kernel
theorem dL_isTable_351 : decode cL_isTable 351 = .ok (.fcmp .l, 1) := by decide +kernel
theorem dL_isTable_352 : decode cL_isTable 352 = .ok (.ifCond .eq 5, 3) := by decide +kernel
theorem dL_isTable_357 : decode cL_isTable 357 = .ok (.iconst 1, 1) := by decide +kernel
theorem dL_isTable_358 : decode cL_isTable 358 = .ok (.istore 18, 2) := by decide +kernel
theorem dL_isTable_36 : decode cL_isTable 36 = .ok (.astore 16, 2) := by decide +kernel
theorem dL_isTable_360 : decode cL_isTable 360 = .ok (.iload 18, 2) := by decide +kernel
theorem dL_isTable_362 : decode cL_isTable 362 = .ok (.iconst 4, 1) := by decide +kernel
theorem dL_isTable_363 : decode cL_isTable 363 = .ok (.if_icmp .ge 26, 3) := by decide +kernel
theorem dL_isTable_366 : decode cL_isTable 366 = .ok (.aload_n 0, 1) := by decide +kernel
theorem dL_isTable_367 : decode cL_isTable 367 = .ok (.iload 18, 2) := by decide +kernel
theorem dL_isTable_369 : decode cL_isTable 369 = .ok (.invokevirtual 58, 3) := by decide +kernel
theorem dL_isTable_372 : decode cL_isTable 372 = .ok (.aload 16, 2) := by decide +kernel
theorem dL_isTable_374 : decode cL_isTable 374 = .ok (.iload 18, 2) := by decide +kernel
theorem dL_isTable_376 : decode cL_isTable 376 = .ok (.laload, 1) := by decide +kernel
theorem dL_isTable_377 : decode cL_isTable 377 = .ok (.lcmp, 1) := by decide +kernel
theorem dL_isTable_378 : decode cL_isTable 378 = .ok (.ifCond .eq 5, 3) := by decide +kernel
theorem dL_isTable_38 : decode cL_isTable 38 = .ok (.iconst 0, 1) := by decide +kernel
theorem dL_isTable_383 : decode cL_isTable 383 = .ok (.iinc 18 1, 3) := by decide +kernel
theorem dL_isTable_386 : decode cL_isTable 386 = .ok (.goto (-26), 3) := by decide +kernel
theorem dL_isTable_389 : decode cL_isTable 389 = .ok (.aload_n 0, 1) := by decide +kernel
theorem dL_isTable_39 : decode cL_isTable 39 = .ok (.istore 17, 2) := by decide +kernel
theorem dL_isTable_390 : decode cL_isTable 390 = .ok (.bipush 9, 2) := by decide +kernel
theorem dL_isTable_392 : decode cL_isTable 392 = .ok (.lconst 0, 1) := by decide +kernel
theorem dL_isTable_393 : decode cL_isTable 393 = .ok (.iload 17, 2) := by decide +kernel
theorem dL_isTable_395 : decode cL_isTable 395 = .ok (.iconst 1, 1) := by decide +kernel
theorem dL_isTable_396 : decode cL_isTable 396 = .ok (.iadd, 1) := by decide +kernel
theorem dL_isTable_397 : decode cL_isTable 397 = .ok (.iconst 0, 1) := by decide +kernel
theorem dL_isTable_398 : decode cL_isTable 398 = .ok (.invokestatic 161, 3) := by decide +kernel
theorem dL_isTable_4 : decode cL_isTable 4 = .ok (.istore 10, 2) := by decide +kernel
theorem dL_isTable_401 : decode cL_isTable 401 = .ok (.ldc2_w 123, 3) := by decide +kernel
theorem dL_isTable_404 : decode cL_isTable 404 = .ok (.lcmp, 1) := by decide +kernel
theorem dL_isTable_405 : decode cL_isTable 405 = .ok (.ifCond .ne 64, 3) := by decide +kernel
theorem dL_isTable_408 : decode cL_isTable 408 = .ok (.aload_n 0, 1) := by decide +kernel
theorem dL_isTable_409 : decode cL_isTable 409 = .ok (.bipush 9, 2) := by decide +kernel
theorem dL_isTable_41 : decode cL_isTable 41 = .ok (.lload 11, 2) := by decide +kernel
theorem dL_isTable_411 : decode cL_isTable 411 = .ok (.lconst 0, 1) := by decide +kernel
theorem dL_isTable_412 : decode cL_isTable 412 = .ok (.iconst 0, 1) := by decide +kernel
theorem dL_isTable_413 : decode cL_isTable 413 = .ok (.iconst 0, 1) := by decide +kernel
theorem dL_isTable_414 : decode cL_isTable 414 = .ok (.invokestatic 161, 3) := by decide +kernel
theorem dL_isTable_417 : decode cL_isTable 417 = .ok (.ldc2_w 123, 3) := by decide +kernel
theorem dL_isTable_420 : decode cL_isTable 420 = .ok (.lcmp, 1) := by decide +kernel
theorem dL_isTable_421 : decode cL_isTable 421 = .ok (.ifCond .ne 48, 3) := by decide +kernel
theorem dL_isTable_424 : decode cL_isTable 424 = .ok (.aload_n 0, 1) := by decide +kernel
theorem dL_isTable_425 : decode cL_isTable 425 = .ok (.bipush 9, 2) := by decide +kernel
theorem dL_isTable_427 : decode cL_isTable 427 = .ok (.lconst 0, 1) := by decide +kernel
theorem dL_isTable_428 : decode cL_isTable 428 = .ok (.iconst 1, 1) := by decide +kernel
theorem dL_isTable_429 : decode cL_isTable 429 = .ok (.bipush 7, 2) := by decide +kernel
theorem dL_isTable_43 : decode cL_isTable 43 = .ok (.lconst 0, 1) := by decide +kernel
theorem dL_isTable_431 : decode cL_isTable 431 = .ok (.invokestatic 161, 3) := by decide +kernel
theorem dL_isTable_434 : decode cL_isTable 434 = .ok (.ldc2_w 127, 3) := by decide +kernel
theorem dL_isTable_437 : decode cL_isTable 437 = .ok (.lcmp, 1) := by decide +kernel
theorem dL_isTable_438 : decode cL_isTable 438 = .ok (.ifCond .ne 31, 3) := by decide +kernel
theorem dL_isTable_44 : decode cL_isTable 44 = .ok (.lcmp, 1) := by decide +kernel
theorem dL_isTable_441 : decode cL_isTable 441 = .ok (.aload_n 0, 1) := by decide +kernel
theorem dL_isTable_442 : decode cL_isTable 442 = .ok (.bipush 10, 2) := by decide +kernel
theorem dL_isTable_444 : decode cL_isTable 444 = .ok (.lconst 0, 1) := by decide +kernel
theorem dL_isTable_445 : decode cL_isTable 445 = .ok (.iconst 4, 1) := by decide +kernel
theorem dL_isTable_446 : decode cL_isTable 446 = .ok (.iconst 0, 1) := by decide +kernel
theorem dL_isTable_447 : decode cL_isTable 447 = .ok (.invokestatic 161, 3) := by decide +kernel
theorem dL_isTable_45 : decode cL_isTable 45 = .ok (.ifCond .le 273, 3) := by decide +kernel
theorem dL_isTable_450 : decode cL_isTable 450 = .ok (.ldc2_w 127, 3) := by decide +kernel
theorem dL_isTable_453 : decode cL_isTable 453 = .ok (.lcmp, 1) := by decide +kernel
theorem dL_isTable_454 : decode cL_isTable 454 = .ok (.ifCond .ne 15, 3) := by decide +kernel
theorem dL_isTable_457 : decode cL_isTable 457 = .ok (.aload_n 0, 1) := by decide +kernel
theorem dL_isTable_458 : decode cL_isTable 458 = .ok (.iconst 0, 1) := by decide +kernel
theorem dL_isTable_459 : decode cL_isTable 459 = .ok (.invokevirtual 196, 3) := by decide +kernel
theorem dL_isTable_462 : decode cL_isTable 462 = .ok (.ifCond .ne 7, 3) := by decide +kernel
theorem dL_isTable_465 : decode cL_isTable 465 = .ok (.iconst 1, 1) := by decide +kernel
theorem dL_isTable_466 : decode cL_isTable 466 = .ok (.goto 4, 3) := by decide +kernel
theorem dL_isTable_470 : decode cL_isTable 470 = .ok (.ireturn, 1) := by decide +kernel
theorem dL_isTable_48 : decode cL_isTable 48 = .ok (.iinc 17 1, 3) := by decide +kernel
theorem dL_isTable_51 : decode cL_isTable 51 = .ok (.iload 17, 2) := by decide +kernel
theorem dL_isTable_53 : decode cL_isTable 53 = .ok (.iload 4, 2) := by decide +kernel
theorem dL_isTable_55 : decode cL_isTable 55 = .ok (.if_icmp .le 5, 3) := by decide +kernel
theorem dL_isTable_6 : decode cL_isTable 6 = .ok (.lload_n 1, 1) := by decide +kernel
theorem dL_isTable_60 : decode cL_isTable 60 = .ok (.aload 6, 2) := by decide +kernel
theorem dL_isTable_62 : decode cL_isTable 62 = .ok (.iload 17, 2) := by decide +kernel
theorem dL_isTable_64 : decode cL_isTable 64 = .ok (.iaload, 1) := by decide +kernel
theorem dL_isTable_65 : decode cL_isTable 65 = .ok (.iconst (-1), 1) := by decide +kernel
theorem dL_isTable_66 : decode cL_isTable 66 = .ok (.if_icmp .eq 44, 3) := by decide +kernel
theorem dL_isTable_69 : decode cL_isTable 69 = .ok (.aload 6, 2) := by decide +kernel
theorem dL_isTable_7 : decode cL_isTable 7 = .ok (.lstore 11, 2) := by decide +kernel
theorem dL_isTable_71 : decode cL_isTable 71 = .ok (.iload 17, 2) := by decide +kernel
theorem dL_isTable_73 : decode cL_isTable 73 = .ok (.iaload, 1) := by decide +kernel
theorem dL_isTable_74 : decode cL_isTable 74 = .ok (.istore 13, 2) := by decide +kernel
theorem dL_isTable_76 : decode cL_isTable 76 = .ok (.aload_n 0, 1) := by decide +kernel
theorem dL_isTable_77 : decode cL_isTable 77 = .ok (.iload 17, 2) := by decide +kernel
theorem dL_isTable_79 : decode cL_isTable 79 = .ok (.bipush 6, 2) := by decide +kernel
theorem dL_isTable_81 : decode cL_isTable 81 = .ok (.invokevirtual 55, 3) := by decide +kernel
theorem dL_isTable_84 : decode cL_isTable 84 = .ok (.lstore 14, 2) := by decide +kernel
theorem dL_isTable_86 : decode cL_isTable 86 = .ok (.aload_n 0, 1) := by decide +kernel
theorem dL_isTable_87 : decode cL_isTable 87 = .ok (.lload 11, 2) := by decide +kernel
theorem dL_isTable_89 : decode cL_isTable 89 = .ok (.iload 13, 2) := by decide +kernel
theorem dL_isTable_9 : decode cL_isTable 9 = .ok (.iload_n 3, 1) := by decide +kernel
theorem dL_isTable_91 : decode cL_isTable 91 = .ok (.iload 4, 2) := by decide +kernel
theorem dL_isTable_93 : decode cL_isTable 93 = .ok (.iload 17, 2) := by decide +kernel
theorem dL_isTable_95 : decode cL_isTable 95 = .ok (.isub, 1) := by decide +kernel
theorem dL_isTable_96 : decode cL_isTable 96 = .ok (.iconst 1, 1) := by decide +kernel
theorem dL_isTable_97 : decode cL_isTable 97 = .ok (.iadd, 1) := by decide +kernel
theorem dL_isTable_98 : decode cL_isTable 98 = .ok (.lload 14, 2) := by decide +kernel
set_option maxRecDepth 20000 in
theorem gpL_isTable_L_asks_wsL_asks_r1 : GoodIn wsL_isTable wsL_asks_r1 := goodIn_r _ [234, 235, 236, 7, 8, 25, 237, 238, 239, 12, 240, 241, 242, 193, 243, 14, 64, 65, 66, 67, 68, 69, 70, 71] (by decide +kernel) (by decide +kernel)
theorem gpL_isTable_L_asks_wsL_asks_r2 : GoodIn wsL_isTable wsL_asks_r2 := goodIn_r _ [244, 245, 246, 247, 248, 249, 250, 5, 251, 252, 253, 254, 255, 256, 257, 258, 259, 78, 79, 80, 81, 260, 261, 262] (by decide +kernel) (by decide +kernel)
theorem gpL_isTable_L_asks_wsL_asks_r3 : GoodIn wsL_isTable wsL_asks_r3 := goodIn_r _ [263, 264, 57, 58, 59, 60, 61, 62, 63, 42, 72, 73, 74, 46, 75, 48, 76, 77, 82, 83, 84, 85, 86, 87] (by decide +kernel) (by decide +kernel)
theorem gpL_isTable_L_asks_wsL_asks_r4 : GoodIn wsL_isTable wsL_asks_r4 := goodIn_r _ [88, 89, 90, 91, 92, 43, 44, 45, 47, 265, 266, 267, 268, 97, 98, 99, 100, 269, 270, 271, 272, 273, 183, 184] (by decide +kernel) (by decide +kernel)
theorem gpL_isTable_L_asks_wsL_asks_r5 : GoodIn wsL_isTable wsL_asks_r5 := goodIn_r _ [105, 274, 106, 107, 108, 109, 110, 111, 112, 113, 114, 115, 116, 117, 118, 119, 120, 121, 122, 123, 124, 125, 126, 127] (by decide +kernel) (by decide +kernel)
theorem gpL_isTable_L_asks_wsL_asks_r6 : GoodIn wsL_isTable wsL_asks_r6 := goodIn_r _ [128, 129, 130, 131, 132, 133, 134, 135, 136, 137, 138, 139, 140, 141, 142, 143, 144, 145, 146, 147, 148, 149, 150, 151] (by decide +kernel) (by decide +kernel)
theorem gpL_isTable_L_asks_wsL_asks_r7 : GoodIn wsL_isTable wsL_asks_r7 := goodIn_r _ [152, 153, 154, 155, 156, 157, 158, 159, 160, 161, 162, 163, 55, 164, 165, 166, 167, 168, 169, 170, 1, 171, 172, 173] (by decide +kernel) (by decide +kernel)
theorem gpL_isTable_L_asks_wsL_asks_r8 : GoodIn wsL_isTable wsL_asks_r8 := goodIn_r _ [174, 175, 176, 177, 178, 179, 180, 181, 182, 275, 276, 277, 278, 279, 280, 281, 282, 283, 284, 285, 286, 287, 288, 289] (by decide +kernel) (by decide +kernel)
theorem gpL_isTable_L_asks_wsL_asks_r9 : GoodIn wsL_isTable wsL_asks_r9 := goodIn_r _ [290, 291, 186, 187, 188, 292, 293, 294, 295, 296, 297, 298, 299, 300, 301, 302, 303, 304, 305, 306, 307, 308, 309, 310] (by decide +kernel) (by decide +kernel)
theorem gpL_isTable_L_asks_wsL_asks_r10 : GoodIn wsL_isTable wsL_asks_r10 := goodIn_r _ [311, 312, 313, 314, 315, 316, 317, 318, 319, 320, 201, 321, 322, 323, 324, 325, 326, 327, 328, 329, 330, 102, 103, 104] (by decide +kernel) (by decide +kernel)
theorem gpL_isTable_L_asks_wsL_asks_r11 : GoodIn wsL_isTable wsL_asks_r11 := goodIn_r _ [185, 331, 332, 333, 334, 335, 336, 194, 337, 338, 339, 210, 340, 341, 342, 343, 344, 345, 346, 347, 348, 349, 225, 350] (by decide +kernel) (by decide +kernel)
theorem gpL_isTable_L_asks_wsL_asks_r12 : GoodIn wsL_isTable wsL_asks_r12 := goodIn_r _ [212, 351, 352, 353, 354, 355, 356, 357, 358, 359, 360, 361, 362, 363, 364, 365, 366, 4, 6, 367, 368, 369, 370, 207] (by decide +kernel) (by decide +kernel)
theorem gpL_isTable_L_asks_wsL_asks_r13 : GoodIn wsL_isTable wsL_asks_r13 := goodIn_r _ [208, 209, 211, 371, 372, 373, 374, 200, 196, 197, 198, 199, 375, 376, 377, 378, 379, 380, 381, 382, 383, 384, 385, 386] (by decide +kernel) (by decide +kernel)
theorem gpL_isTable_L_asks_wsL_asks_r14 : GoodIn wsL_isTable wsL_asks_r14 := goodIn_r _ [387, 195, 388, 389, 390, 391, 392, 393, 394, 395, 396, 397, 398, 399, 189, 190, 191, 192, 202, 203, 204, 205, 206, 226] (by decide +kernel) (by decide +kernel)
theorem gpL_isTable_L_asks_wsL_asks_r15 : GoodIn wsL_isTable wsL_asks_r15 := goodIn_r _ [227, 228, 229, 230, 221, 222, 223, 224, 400, 401, 402, 403, 404, 405, 406, 407, 408, 409, 410, 411, 412, 413, 414, 415] (by decide +kernel) (by decide +kernel)
theorem gpL_isTable_L_asks_wsL_asks_r16 : GoodIn wsL_isTable wsL_asks_r16 := goodIn_r _ [416, 417, 418, 419, 420, 421, 422, 423, 424, 425, 426, 427, 428, 429, 430, 431, 432, 433, 434, 435, 436, 437, 438, 439] (by decide +kernel) (by decide +kernel)
theorem gpL_isTable_L_asks_wsL_asks_r17 : GoodIn wsL_isTable wsL_asks_r17 := goodIn_r _ [440, 441, 442, 443, 444, 445, 446, 447, 448, 449, 450, 451, 452, 453, 454, 455, 456, 457, 458, 459, 460, 461, 462, 463] (by decide +kernel) (by decide +kernel)
theorem gpL_isTable_L_asks_wsL_asks_r18 : GoodIn wsL_isTable wsL_asks_r18 := goodIn_r _ [464, 465, 466, 467, 468, 469, 470, 471, 472, 473, 474, 475, 476, 477, 478, 479, 480, 481, 482, 483, 484, 485, 486, 487] (by decide +kernel) (by decide +kernel)
theorem gpL_isTable_L_asks_wsL_asks_r19 : GoodIn wsL_isTable wsL_asks_r19 := goodIn_r _ [488, 489, 490, 491, 492, 493, 494, 495, 496, 497, 498, 499, 500, 501, 502, 503, 504, 505, 506, 507, 508, 509, 510, 511] (by decide +kernel) (by decide +kernel)
theorem gpL_isTable_L_asks_wsL_asks_r20 : GoodIn wsL_isTable wsL_asks_r20 := goodIn_r _ [512, 513, 514, 515, 516, 517, 518, 519, 520, 521, 522, 523, 524, 525, 526, 527, 528, 529, 530, 531, 532, 533, 534, 535] (by decide +kernel) (by decide +kernel)
theorem gpL_isTable_L_asks_wsL_asks_r21 : GoodIn wsL_isTable wsL_asks_r21 := goodIn_r _ [536, 537, 538, 539, 540, 541, 542, 543, 544, 545, 546, 547, 548, 549, 550, 551, 552, 553, 554, 555, 556, 557, 558, 559] (by decide +kernel) (by decide +kernel)
theorem gpL_isTable_L_asks_wsL_asks_r22 : GoodIn wsL_isTable wsL_asks_r22 := goodIn_r _ [560, 561, 562, 563, 564, 565, 566, 567, 568, 569, 570, 571, 572, 573, 574, 575, 576, 577, 578, 579, 580, 581, 582, 583] (by decide +kernel) (by decide +kernel)
theorem gpL_isTable_L_asks_wsL_asks_r23 : GoodIn wsL_isTable wsL_asks_r23 := goodIn_r _ [15, 584, 585, 586, 587, 588, 589, 590, 591, 592, 593, 594, 595, 596, 597, 598, 213, 214, 215, 216, 93, 94, 95, 96] (by decide +kernel) (by decide +kernel)
theorem gpL_isTable_L_asks_wsL_asks_r24 : GoodIn wsL_isTable wsL_asks_r24 := goodIn_r _ [101] (by decide +kernel) (by decide +kernel)
theorem gpL_isTable_L_asks_wsX90 : GoodIn wsL_isTable wsX90 := goodIn_r _ [631, 632, 633, 634, 635, 636, 637, 638] (by decide +kernel) (by decide +kernel)
theorem gpL_isTable_L_asks_wsX40 : GoodIn wsL_isTable wsX40 := goodIn_r _ [639] (by decide +kernel) (by decide +kernel)
theorem gpL_isTable_L_asks_wsX50 : GoodIn wsL_isTable wsX50 := goodIn_r _ [640, 641, 642] (by decide +kernel) (by decide +kernel)
theorem gpL_isTable_L_asks_wsX10 : GoodIn wsL_isTable wsX10 := goodIn_r _ [643, 644, 645, 646, 647, 648] (by decide +kernel) (by decide +kernel)
theorem gpL_isTable_L_asks_wsX80 : GoodIn wsL_isTable wsX80 := goodIn_r _ [649, 650, 651] (by decide +kernel) (by decide +kernel)
theorem gpL_isTable_L_asks_wsX30 : GoodIn wsL_isTable wsX30 := goodIn_r _ [652, 653, 654, 655, 656, 657, 658, 659] (by decide +kernel) (by decide +kernel)
theorem gpL_isTable_L_asks_wsX00 : GoodIn wsL_isTable wsX00 := goodIn_r _ [660] (by decide +kernel) (by decide +kernel)
theorem gpL_isTable_L_asks_wsX20 : GoodIn wsL_isTable wsX20 := goodIn_r _ [661, 662, 663, 664] (by decide +kernel) (by decide +kernel)
theorem gpL_isTable_L_asks_wsX60 : GoodIn wsL_isTable wsX60 := goodIn_r _ [665, 666] (by decide +kernel) (by decide +kernel)
theorem gpL_isTable_L_asks_wsX70 : GoodIn wsL_isTable wsX70 := goodIn_r _ [667, 668, 669] (by decide +kernel) (by decide +kernel)
theorem ggL_isTable_L_asks : GoodIn wsL_isTable wsL_asks := goodIn_ca (goodIn_ca (goodIn_ca (goodIn_cons (goodIn_r [_] [233] (by decide +kernel) (by decide +kernel)) (goodIn_app (goodIn_app (goodIn_app (goodIn_app (goodIn_app (goodIn_app (goodIn_app (goodIn_app (goodIn_app (goodIn_app (goodIn_app gpL_isTable_L_asks_wsL_asks_r1 (goodIn_app gpL_isTable_L_asks_wsL_asks_r2 (goodIn_app gpL_isTable_L_asks_wsL_asks_r3 (goodIn_app gpL_isTable_L_asks_wsL_asks_r4 (goodIn_app gpL_isTable_L_asks_wsL_asks_r5 (goodIn_app gpL_isTable_L_asks_wsL_asks_r6 (goodIn_app gpL_isTable_L_asks_wsL_asks_r7 (goodIn_app gpL_isTable_L_asks_wsL_asks_r8 (goodIn_app gpL_isTable_L_asks_wsL_asks_r9 (goodIn_app gpL_isTable_L_asks_wsL_asks_r10 (goodIn_app gpL_isTable_L_asks_wsL_asks_r11 (goodIn_app gpL_isTable_L_asks_wsL_asks_r12 (goodIn_app gpL_isTable_L_asks_wsL_asks_r13 (goodIn_app gpL_isTable_L_asks_wsL_asks_r14 (goodIn_app gpL_isTable_L_asks_wsL_asks_r15 (goodIn_app gpL_isTable_L_asks_wsL_asks_r16 (goodIn_app gpL_isTable_L_asks_wsL_asks_r17 (goodIn_app gpL_isTable_L_asks_wsL_asks_r18 (goodIn_app gpL_isTable_L_asks_wsL_asks_r19 (goodIn_app gpL_isTable_L_asks_wsL_asks_r20 (goodIn_app gpL_isTable_L_asks_wsL_asks_r21 (goodIn_app gpL_isTable_L_asks_wsL_asks_r22 (goodIn_app gpL_isTable_L_asks_wsL_asks_r23 (gpL_isTable_L_asks_wsL_asks_r24)))))))))))))))))))))))) gpL_isTable_L_asks_wsX90) gpL_isTable_L_asks_wsX40) gpL_isTable_L_asks_wsX50) gpL_isTable_L_asks_wsX10) gpL_isTable_L_asks_wsX80) gpL_isTable_L_asks_wsX30) gpL_isTable_L_asks_wsX00) gpL_isTable_L_asks_wsX20) gpL_isTable_L_asks_wsX60) gpL_isTable_L_asks_wsX70)) (goodIn_sub (fun _ h => List.mem_cons_of_mem _ (List.mem_append_left _ (List.mem_append_left _ (List.mem_append_right _ h)))) (by decide +kernel))) (goodIn_sub (fun _ h => List.mem_cons_of_mem _ (List.mem_append_left _ (List.mem_append_right _ h))) (by decide +kernel))) (goodIn_sub (fun _ h => List.mem_cons_of_mem _ (List.mem_append_right _ h)) (by decide +kernel))
set_option maxRecDepth 20000 in
theorem gL_isTable_L_asks : GoodIn wsL_isTable (va_wsS RL 161 yL_asks wsL_asks) := goodIn_app (goodIn_of _ (by decide +kernel)) ggL_isTable_L_asks
set_option maxRecDepth 20000 in
theorem gpL_isTable_L_isInstalment_wsL_isInstalment_r1 : GoodIn wsL_isTable wsL_isInstalment_r1 := goodIn_r _ [20, 21, 22, 23, 18, 24, 25, 26, 27, 28, 29, 30, 31, 32, 33, 34, 35, 36, 37, 38, 39, 40, 12, 41] (by decide +kernel) (by decide +kernel)
theorem gpL_isTable_L_isInstalment_wsL_isInstalment_r2 : GoodIn wsL_isTable wsL_isInstalment_r2 := goodIn_r _ [42, 43, 44, 45, 46, 47, 48, 49, 50, 51, 52, 53, 54, 55, 56, 57, 58, 59, 60, 61, 62, 63, 64, 65] (by decide +kernel) (by decide +kernel)
theorem gpL_isTable_L_isInstalment_wsL_isInstalment_r3 : GoodIn wsL_isTable wsL_isInstalment_r3 := goodIn_r _ [66, 67, 68, 69, 70, 71, 72, 73, 74, 75, 76, 77, 78, 79, 80, 81, 82, 83, 84, 85, 86, 87, 88, 89] (by decide +kernel) (by decide +kernel)
theorem gpL_isTable_L_isInstalment_wsL_isInstalment_r4 : GoodIn wsL_isTable wsL_isInstalment_r4 := goodIn_r _ [90, 91, 92, 93, 94, 95, 96, 97, 98, 99, 100, 101, 102, 103, 104, 105, 106, 107, 108, 109, 110, 111, 112, 113] (by decide +kernel) (by decide +kernel)
theorem gpL_isTable_L_isInstalment_wsL_isInstalment_r5 : GoodIn wsL_isTable wsL_isInstalment_r5 := goodIn_r _ [114, 115, 116, 117, 118, 119, 120, 121, 122, 123, 124, 125, 126, 5, 127, 128, 129, 130, 131, 132, 133, 134, 135, 136] (by decide +kernel) (by decide +kernel)
theorem gpL_isTable_L_isInstalment_wsL_isInstalment_r6 : GoodIn wsL_isTable wsL_isInstalment_r6 := goodIn_r _ [137, 138, 139, 140, 141, 142, 143, 144, 145, 146, 147, 148, 149, 150, 151, 152, 153, 154, 155, 156, 157, 158, 159, 160] (by decide +kernel) (by decide +kernel)
theorem gpL_isTable_L_isInstalment_wsL_isInstalment_r7 : GoodIn wsL_isTable wsL_isInstalment_r7 := goodIn_r _ [161, 162, 163, 164, 165, 166, 167, 168, 169, 170, 1, 171, 172, 173, 174, 175, 176, 177, 178, 179, 180, 181, 182, 183] (by decide +kernel) (by decide +kernel)
theorem gpL_isTable_L_isInstalment_wsL_isInstalment_r8 : GoodIn wsL_isTable wsL_isInstalment_r8 := goodIn_r _ [184, 185, 186, 187, 188] (by decide +kernel) (by decide +kernel)
theorem gpL_isTable_L_isInstalment_wsX90 : GoodIn wsL_isTable wsX90 := goodIn_r _ [631, 632, 633, 634, 635, 636, 637, 638] (by decide +kernel) (by decide +kernel)
theorem gpL_isTable_L_isInstalment_wsX50 : GoodIn wsL_isTable wsX50 := goodIn_r _ [640, 641, 642] (by decide +kernel) (by decide +kernel)
theorem gpL_isTable_L_isInstalment_wsX10 : GoodIn wsL_isTable wsX10 := goodIn_r _ [643, 644, 645, 646, 647, 648] (by decide +kernel) (by decide +kernel)
theorem gpL_isTable_L_isInstalment_wsX80 : GoodIn wsL_isTable wsX80 := goodIn_r _ [649, 650, 651] (by decide +kernel) (by decide +kernel)
theorem ggL_isTable_L_isInstalment : GoodIn wsL_isTable wsL_isInstalment := goodIn_ca (goodIn_ca (goodIn_cons (goodIn_r [_] [19] (by decide +kernel) (by decide +kernel)) (goodIn_app (goodIn_app (goodIn_app (goodIn_app (goodIn_app gpL_isTable_L_isInstalment_wsL_isInstalment_r1 (goodIn_app gpL_isTable_L_isInstalment_wsL_isInstalment_r2 (goodIn_app gpL_isTable_L_isInstalment_wsL_isInstalment_r3 (goodIn_app gpL_isTable_L_isInstalment_wsL_isInstalment_r4 (goodIn_app gpL_isTable_L_isInstalment_wsL_isInstalment_r5 (goodIn_app gpL_isTable_L_isInstalment_wsL_isInstalment_r6 (goodIn_app gpL_isTable_L_isInstalment_wsL_isInstalment_r7 (gpL_isTable_L_isInstalment_wsL_isInstalment_r8)))))))) gpL_isTable_L_isInstalment_wsX90) gpL_isTable_L_isInstalment_wsX50) gpL_isTable_L_isInstalment_wsX10) gpL_isTable_L_isInstalment_wsX80)) (goodIn_sub (fun _ h => List.mem_cons_of_mem _ (List.mem_append_left _ (List.mem_append_left _ (List.mem_append_right _ h)))) (by decide +kernel))) (goodIn_sub (fun _ h => List.mem_cons_of_mem _ (List.mem_append_left _ (List.mem_append_right _ h))) (by decide +kernel))
set_option maxRecDepth 20000 in
theorem gL_isTable_L_isInstalment : GoodIn wsL_isTable (va_wsS RL 215 yL_isInstalment wsL_isInstalment) := goodIn_app (goodIn_of _ (by decide +kernel)) ggL_isTable_L_isInstalment
set_option maxRecDepth 20000 in
theorem ggL_isTable_L_rounded : GoodIn wsL_isTable wsL_rounded := goodIn_r _ [24, 21, 25, 26, 27, 28, 29, 30, 31, 32, 33] (by decide +kernel) (by decide +kernel)
set_option maxRecDepth 20000 in
theorem gL_isTable_L_rounded : GoodIn wsL_isTable (va_wsS RL 158 yL_rounded wsL_rounded) := goodIn_app (goodIn_of _ (by decide +kernel)) ggL_isTable_L_rounded
set_option maxRecDepth 20000 in
theorem gpL_isTable_X9_errors_wsX9_errors_r1 : GoodIn wsL_isTable wsX9_errors_r1 := goodIn_r _ [42, 194, 432, 496, 603, 97, 98, 12, 99, 100, 64, 65, 66, 67, 68, 69, 70, 71, 604, 605, 606, 46, 607, 608] (by decide +kernel) (by decide +kernel)
theorem gpL_isTable_X9_errors_wsX9_errors_r2 : GoodIn wsL_isTable wsX9_errors_r2 := goodIn_r _ [48, 106, 105, 609, 111, 112, 113, 114, 115, 116, 117, 118, 119, 120, 121, 122, 123, 124, 125, 126, 5, 127, 128, 129] (by decide +kernel) (by decide +kernel)
theorem gpL_isTable_X9_errors_wsX9_errors_r3 : GoodIn wsL_isTable wsX9_errors_r3 := goodIn_r _ [130, 131, 132, 133, 134, 135, 136, 137, 138, 139, 140, 141, 142, 143, 144, 145, 146, 147, 148, 149, 150, 151, 152, 153] (by decide +kernel) (by decide +kernel)
theorem gpL_isTable_X9_errors_wsX9_errors_r4 : GoodIn wsL_isTable wsX9_errors_r4 := goodIn_r _ [154, 155, 156, 157, 158, 159, 160, 161, 162, 163, 55, 164, 165, 166, 167, 168, 169, 170, 1, 171, 172, 173, 174, 175] (by decide +kernel) (by decide +kernel)
theorem gpL_isTable_X9_errors_wsX9_errors_r5 : GoodIn wsL_isTable wsX9_errors_r5 := goodIn_r _ [176, 177, 178, 179, 180, 181, 182, 183, 184, 610, 611, 612, 613, 614, 185, 186, 187, 188, 615, 616, 617, 210, 618, 341] (by decide +kernel) (by decide +kernel)
theorem gpL_isTable_X9_errors_wsX9_errors_r6 : GoodIn wsL_isTable wsX9_errors_r6 := goodIn_r _ [619, 222, 223, 224, 225, 212, 620, 621, 622, 437, 623, 439, 458, 490, 459, 491, 624, 441, 460, 596, 478, 479, 480, 481] (by decide +kernel) (by decide +kernel)
theorem gpL_isTable_X9_errors_wsX9_errors_r7 : GoodIn wsL_isTable wsX9_errors_r7 := goodIn_r _ [465, 466, 461, 462, 463, 464, 598, 468, 276, 277, 278, 279, 280, 281, 282, 283, 284, 625, 626, 627, 628, 501, 629, 504] (by decide +kernel) (by decide +kernel)
theorem gpL_isTable_X9_errors_wsX9_errors_r8 : GoodIn wsL_isTable wsX9_errors_r8 := goodIn_r _ [517, 510, 511, 512, 503, 630, 514, 515, 516] (by decide +kernel) (by decide +kernel)
theorem gpL_isTable_X9_errors_wsX90 : GoodIn wsL_isTable wsX90 := goodIn_r _ [631, 632, 633, 634, 635, 636, 637, 638] (by decide +kernel) (by decide +kernel)
theorem gpL_isTable_X9_errors_wsX50 : GoodIn wsL_isTable wsX50 := goodIn_r _ [640, 641, 642] (by decide +kernel) (by decide +kernel)
theorem gpL_isTable_X9_errors_wsX10 : GoodIn wsL_isTable wsX10 := goodIn_r _ [643, 644, 645, 646, 647, 648] (by decide +kernel) (by decide +kernel)
theorem gpL_isTable_X9_errors_wsX80 : GoodIn wsL_isTable wsX80 := goodIn_r _ [649, 650, 651] (by decide +kernel) (by decide +kernel)
theorem gpL_isTable_X9_errors_wsX30 : GoodIn wsL_isTable wsX30 := goodIn_r _ [652, 653, 654, 655, 656, 657, 658, 659] (by decide +kernel) (by decide +kernel)
theorem gpL_isTable_X9_errors_wsX20 : GoodIn wsL_isTable wsX20 := goodIn_r _ [661, 662, 663, 664] (by decide +kernel) (by decide +kernel)
theorem gpL_isTable_X9_errors_wsX60 : GoodIn wsL_isTable wsX60 := goodIn_r _ [665, 666] (by decide +kernel) (by decide +kernel)
theorem ggL_isTable_X9_errors : GoodIn wsL_isTable wsX9_errors := goodIn_ca (goodIn_cons (goodIn_r [_] [602] (by decide +kernel) (by decide +kernel)) (goodIn_app (goodIn_app (goodIn_app (goodIn_app (goodIn_app (goodIn_app (goodIn_app (goodIn_app gpL_isTable_X9_errors_wsX9_errors_r1 (goodIn_app gpL_isTable_X9_errors_wsX9_errors_r2 (goodIn_app gpL_isTable_X9_errors_wsX9_errors_r3 (goodIn_app gpL_isTable_X9_errors_wsX9_errors_r4 (goodIn_app gpL_isTable_X9_errors_wsX9_errors_r5 (goodIn_app gpL_isTable_X9_errors_wsX9_errors_r6 (goodIn_app gpL_isTable_X9_errors_wsX9_errors_r7 (gpL_isTable_X9_errors_wsX9_errors_r8)))))))) gpL_isTable_X9_errors_wsX90) gpL_isTable_X9_errors_wsX50) gpL_isTable_X9_errors_wsX10) gpL_isTable_X9_errors_wsX80) gpL_isTable_X9_errors_wsX30) gpL_isTable_X9_errors_wsX20) gpL_isTable_X9_errors_wsX60)) (goodIn_sub (fun _ h => List.mem_cons_of_mem _ (List.mem_append_left _ (List.mem_append_left _ (List.mem_append_right _ h)))) (by decide +kernel))
set_option maxRecDepth 20000 in
theorem gL_isTable_X9_errors : GoodIn wsL_isTable (wsV RL 196 RX9 yX9_errors wsX9_errors) := goodIn_app (goodIn_of _ (by decide +kernel)) ggL_isTable_X9_errors
set_option maxRecDepth 20000 in
theorem ggL_isTable_X9_interestShare : GoodIn wsL_isTable wsX9_interestShare := goodIn_r _ [220, 194, 221, 222, 223, 210, 224, 225, 212, 631, 632, 633, 634, 635, 636, 637, 638, 652, 653, 654, 655, 656, 657, 658, 659] (by decide +kernel) (by decide +kernel)
set_option maxRecDepth 20000 in
theorem gL_isTable_X9_interestShare : GoodIn wsL_isTable (wsV RL 219 RX9 yX9_interestShare wsX9_interestShare) := goodIn_app (goodIn_of _ (by decide +kernel)) ggL_isTable_X9_interestShare
set_option maxRecDepth 20000 in
theorem ggL_isTable_X9_mode : GoodIn wsL_isTable wsX9_mode := goodIn_r _ [13, 14, 15, 631, 632, 633, 634, 635, 636, 637, 638, 639] (by decide +kernel) (by decide +kernel)
set_option maxRecDepth 20000 in
theorem gL_isTable_X9_mode : GoodIn wsL_isTable (wsV RL 147 RX9 yX9_mode wsX9_mode) := goodIn_app (goodIn_of _ (by decide +kernel)) ggL_isTable_X9_mode
set_option maxRecDepth 20000 in
theorem ggL_isTable_X9_rowOf : GoodIn wsL_isTable wsX9_rowOf := goodIn_ca (goodIn_ca (goodIn_ca (goodIn_r _ [192, 193, 194, 195, 196, 197, 198, 12, 199, 200, 201, 78, 79, 80, 81, 64, 65, 66, 67, 68, 69, 70, 71, 202, 203, 204, 205, 206, 207, 208, 209, 210, 211, 212, 631, 632, 633, 634, 635, 636, 637, 638, 652, 653, 654, 655, 656, 657, 658, 659] (by decide +kernel) (by decide +kernel)) (goodIn_sub (fun _ h => List.mem_cons_of_mem _ (List.mem_append_left _ (List.mem_append_right _ h))) (by decide +kernel))) (goodIn_sub (fun _ h => List.mem_cons_of_mem _ (List.mem_append_left _ (List.mem_append_left _ (List.mem_append_right _ h)))) (by decide +kernel))) (goodIn_sub (fun _ h => List.mem_cons_of_mem _ (List.mem_append_right _ h)) (by decide +kernel))
set_option maxRecDepth 20000 in
theorem gL_isTable_X9_rowOf : GoodIn wsL_isTable (wsV RL 55 RX9 yX9_rowOf wsX9_rowOf) := goodIn_app (goodIn_of _ (by decide +kernel)) ggL_isTable_X9_rowOf
set_option maxRecDepth 20000 in
theorem ggL_isTable_X9_rows : GoodIn wsL_isTable wsX9_rows := goodIn_ca (goodIn_r _ [216, 194, 195, 196, 197, 198, 12, 199, 200, 201, 78, 79, 80, 81, 631, 632, 633, 634, 635, 636, 637, 638, 652, 653, 654, 655, 656, 657, 658, 659] (by decide +kernel) (by decide +kernel)) (goodIn_sub (fun _ h => List.mem_cons_of_mem _ (List.mem_append_left _ (List.mem_append_right _ h))) (by decide +kernel))
set_option maxRecDepth 20000 in
theorem gL_isTable_X9_rows : GoodIn wsL_isTable (wsV RL 115 RX9 yX9_rows wsX9_rows) := goodIn_app (goodIn_of _ (by decide +kernel)) ggL_isTable_X9_rows
set_option maxRecDepth 20000 in
theorem ggL_isTable_X9_total : GoodIn wsL_isTable wsX9_total := goodIn_ca (goodIn_ca (goodIn_r _ [229, 230, 194, 196, 197, 198, 12, 199, 200, 201, 78, 79, 80, 81, 64, 65, 66, 67, 68, 69, 70, 71, 221, 222, 223, 210, 224, 225, 212, 631, 632, 633, 634, 635, 636, 637, 638, 652, 653, 654, 655, 656, 657, 658, 659] (by decide +kernel) (by decide +kernel)) (goodIn_sub (fun _ h => List.mem_cons_of_mem _ (List.mem_append_left _ (List.mem_append_right _ h))) (by decide +kernel))) (goodIn_sub (fun _ h => List.mem_cons_of_mem _ (List.mem_append_left _ (List.mem_append_left _ (List.mem_append_right _ h)))) (by decide +kernel))
set_option maxRecDepth 20000 in
theorem gL_isTable_X9_total : GoodIn wsL_isTable (wsV RL 58 RX9 yX9_total wsX9_total) := goodIn_app (goodIn_of _ (by decide +kernel)) ggL_isTable_X9_total
