-- printed rows that the walks use
theorem dL_isTaxed_0 : decode cL_isTaxed 0 = .ok (.aload_n 0, 1) := by decide +kernel
theorem dL_isTaxed_1 : decode cL_isTaxed 1 = .ok (.invokevirtual 147, 3) := by decide +kernel
theorem dL_isTaxed_10 : decode cL_isTaxed 10 = .ok (.aload_n 1, 1) := by decide +kernel
theorem dL_isTaxed_100 : decode cL_isTaxed 100 = .ok (.iload 7, 2) := by decide +kernel
theorem dL_isTaxed_102 : decode cL_isTaxed 102 = .ok (.aload_n 1, 1) := by decide +kernel
theorem dL_isTaxed_103 : decode cL_isTaxed 103 = .ok (.bipush 6, 2) := by decide +kernel
theorem dL_isTaxed_105 : decode cL_isTaxed 105 = .ok (.invokestatic 13, 3) := by decide +kernel
theorem dL_isTaxed_108 : decode cL_isTaxed 108 = .ok (.ifCond .ne 9, 3) := by decide +kernel
theorem dL_isTaxed_11 : decode cL_isTaxed 11 = .ok (.bipush 9, 2) := by decide +kernel
theorem dL_isTaxed_111 : decode cL_isTaxed 111 = .ok (.sipush 1000, 3) := by decide +kernel
theorem dL_isTaxed_114 : decode cL_isTaxed 114 = .ok (.goto 10, 3) := by decide +kernel
theorem dL_isTaxed_117 : decode cL_isTaxed 117 = .ok (.aload_n 1, 1) := by decide +kernel
theorem dL_isTaxed_118 : decode cL_isTaxed 118 = .ok (.sipush 600, 3) := by decide +kernel
theorem dL_isTaxed_121 : decode cL_isTaxed 121 = .ok (.invokestatic 13, 3) := by decide +kernel
theorem dL_isTaxed_124 : decode cL_isTaxed 124 = .ok (.iastore, 1) := by decide +kernel
theorem dL_isTaxed_125 : decode cL_isTaxed 125 = .ok (.aload_n 0, 1) := by decide +kernel
theorem dL_isTaxed_126 : decode cL_isTaxed 126 = .ok (.aload 5, 2) := by decide +kernel
theorem dL_isTaxed_128 : decode cL_isTaxed 128 = .ok (.iload 7, 2) := by decide +kernel
theorem dL_isTaxed_13 : decode cL_isTaxed 13 = .ok (.invokestatic 13, 3) := by decide +kernel
theorem dL_isTaxed_130 : decode cL_isTaxed 130 = .ok (.laload, 1) := by decide +kernel
theorem dL_isTaxed_131 : decode cL_isTaxed 131 = .ok (.aload 6, 2) := by decide +kernel
theorem dL_isTaxed_133 : decode cL_isTaxed 133 = .ok (.iload 7, 2) := by decide +kernel
theorem dL_isTaxed_135 : decode cL_isTaxed 135 = .ok (.iaload, 1) := by decide +kernel
theorem dL_isTaxed_136 : decode cL_isTaxed 136 = .ok (.invokevirtual 90, 3) := by decide +kernel
theorem dL_isTaxed_139 : decode cL_isTaxed 139 = .ok (.iload 7, 2) := by decide +kernel
theorem dL_isTaxed_141 : decode cL_isTaxed 141 = .ok (.iconst 1, 1) := by decide +kernel
theorem dL_isTaxed_142 : decode cL_isTaxed 142 = .ok (.iadd, 1) := by decide +kernel
theorem dL_isTaxed_143 : decode cL_isTaxed 143 = .ok (.if_icmp .eq 5, 3) := by decide +kernel
theorem dL_isTaxed_148 : decode cL_isTaxed 148 = .ok (.iinc 7 1, 3) := by decide +kernel
theorem dL_isTaxed_151 : decode cL_isTaxed 151 = .ok (.goto (-118), 3) := by decide +kernel
theorem dL_isTaxed_154 : decode cL_isTaxed 154 = .ok (.iload 4, 2) := by decide +kernel
theorem dL_isTaxed_156 : decode cL_isTaxed 156 = .ok (.ifCond .le 84, 3) := by decide +kernel
theorem dL_isTaxed_159 : decode cL_isTaxed 159 = .ok (.aload_n 0, 1) := by decide +kernel
theorem dL_isTaxed_16 : decode cL_isTaxed 16 = .ok (.istore 4, 2) := by decide +kernel
theorem dL_isTaxed_160 : decode cL_isTaxed 160 = .ok (.bipush 19, 2) := by decide +kernel
theorem dL_isTaxed_162 : decode cL_isTaxed 162 = .ok (.aload 5, 2) := by decide +kernel
theorem dL_isTaxed_164 : decode cL_isTaxed 164 = .ok (.iload 4, 2) := by decide +kernel
theorem dL_isTaxed_166 : decode cL_isTaxed 166 = .ok (.iconst 1, 1) := by decide +kernel
theorem dL_isTaxed_167 : decode cL_isTaxed 167 = .ok (.isub, 1) := by decide +kernel
theorem dL_isTaxed_168 : decode cL_isTaxed 168 = .ok (.laload, 1) := by decide +kernel
theorem dL_isTaxed_169 : decode cL_isTaxed 169 = .ok (.iconst 5, 1) := by decide +kernel
theorem dL_isTaxed_170 : decode cL_isTaxed 170 = .ok (.iconst 0, 1) := by decide +kernel
theorem dL_isTaxed_171 : decode cL_isTaxed 171 = .ok (.invokestatic 161, 3) := by decide +kernel
theorem dL_isTaxed_174 : decode cL_isTaxed 174 = .ok (.ldc2_w 127, 3) := by decide +kernel
theorem dL_isTaxed_177 : decode cL_isTaxed 177 = .ok (.lcmp, 1) := by decide +kernel
theorem dL_isTaxed_178 : decode cL_isTaxed 178 = .ok (.ifCond .ne 60, 3) := by decide +kernel
theorem dL_isTaxed_18 : decode cL_isTaxed 18 = .ok (.iload 4, 2) := by decide +kernel
theorem dL_isTaxed_181 : decode cL_isTaxed 181 = .ok (.aload_n 0, 1) := by decide +kernel
theorem dL_isTaxed_182 : decode cL_isTaxed 182 = .ok (.bipush 19, 2) := by decide +kernel
theorem dL_isTaxed_184 : decode cL_isTaxed 184 = .ok (.aload 5, 2) := by decide +kernel
theorem dL_isTaxed_186 : decode cL_isTaxed 186 = .ok (.iload 4, 2) := by decide +kernel
theorem dL_isTaxed_188 : decode cL_isTaxed 188 = .ok (.iconst 1, 1) := by decide +kernel
theorem dL_isTaxed_189 : decode cL_isTaxed 189 = .ok (.isub, 1) := by decide +kernel
theorem dL_isTaxed_190 : decode cL_isTaxed 190 = .ok (.laload, 1) := by decide +kernel
theorem dL_isTaxed_191 : decode cL_isTaxed 191 = .ok (.lconst 1, 1) := by decide +kernel
theorem dL_isTaxed_192 : decode cL_isTaxed 192 = .ok (.ladd, 1) := by decide +kernel
theorem dL_isTaxed_193 : decode cL_isTaxed 193 = .ok (.sipush 1001, 3) := by decide +kernel
theorem dL_isTaxed_196 : decode cL_isTaxed 196 = .ok (.iconst 0, 1) := by decide +kernel
theorem dL_isTaxed_197 : decode cL_isTaxed 197 = .ok (.invokestatic 161, 3) := by decide +kernel
theorem dL_isTaxed_20 : decode cL_isTaxed 20 = .ok (.newarray .long, 2) := by decide +kernel
theorem dL_isTaxed_200 : decode cL_isTaxed 200 = .ok (.ldc2_w 127, 3) := by decide +kernel
theorem dL_isTaxed_203 : decode cL_isTaxed 203 = .ok (.lcmp, 1) := by decide +kernel
theorem dL_isTaxed_204 : decode cL_isTaxed 204 = .ok (.ifCond .ne 34, 3) := by decide +kernel
theorem dL_isTaxed_207 : decode cL_isTaxed 207 = .ok (.iload 4, 2) := by decide +kernel
theorem dL_isTaxed_209 : decode cL_isTaxed 209 = .ok (.bipush 8, 2) := by decide +kernel
theorem dL_isTaxed_211 : decode cL_isTaxed 211 = .ok (.if_icmp .ne 29, 3) := by decide +kernel
theorem dL_isTaxed_214 : decode cL_isTaxed 214 = .ok (.aload_n 0, 1) := by decide +kernel
theorem dL_isTaxed_215 : decode cL_isTaxed 215 = .ok (.bipush 19, 2) := by decide +kernel
theorem dL_isTaxed_217 : decode cL_isTaxed 217 = .ok (.aload 5, 2) := by decide +kernel
theorem dL_isTaxed_219 : decode cL_isTaxed 219 = .ok (.iload 4, 2) := by decide +kernel
theorem dL_isTaxed_22 : decode cL_isTaxed 22 = .ok (.astore 5, 2) := by decide +kernel
theorem dL_isTaxed_221 : decode cL_isTaxed 221 = .ok (.iconst 1, 1) := by decide +kernel
theorem dL_isTaxed_222 : decode cL_isTaxed 222 = .ok (.isub, 1) := by decide +kernel
theorem dL_isTaxed_223 : decode cL_isTaxed 223 = .ok (.laload, 1) := by decide +kernel
theorem dL_isTaxed_224 : decode cL_isTaxed 224 = .ok (.lconst 1, 1) := by decide +kernel
theorem dL_isTaxed_225 : decode cL_isTaxed 225 = .ok (.ladd, 1) := by decide +kernel
theorem dL_isTaxed_226 : decode cL_isTaxed 226 = .ok (.iconst 5, 1) := by decide +kernel
theorem dL_isTaxed_227 : decode cL_isTaxed 227 = .ok (.iconst 0, 1) := by decide +kernel
theorem dL_isTaxed_228 : decode cL_isTaxed 228 = .ok (.invokestatic 161, 3) := by decide +kernel
theorem dL_isTaxed_231 : decode cL_isTaxed 231 = .ok (.ldc2_w 131, 3) := by decide +kernel
theorem dL_isTaxed_234 : decode cL_isTaxed 234 = .ok (.lcmp, 1) := by decide +kernel
theorem dL_isTaxed_235 : decode cL_isTaxed 235 = .ok (.ifCond .eq 5, 3) := by decide +kernel
theorem dL_isTaxed_24 : decode cL_isTaxed 24 = .ok (.iload 4, 2) := by decide +kernel
theorem dL_isTaxed_240 : decode cL_isTaxed 240 = .ok (.iconst 0, 1) := by decide +kernel
theorem dL_isTaxed_241 : decode cL_isTaxed 241 = .ok (.istore 7, 2) := by decide +kernel
theorem dL_isTaxed_243 : decode cL_isTaxed 243 = .ok (.iload 7, 2) := by decide +kernel
theorem dL_isTaxed_245 : decode cL_isTaxed 245 = .ok (.bipush 6, 2) := by decide +kernel
theorem dL_isTaxed_247 : decode cL_isTaxed 247 = .ok (.if_icmp .ge 213, 3) := by decide +kernel
theorem dL_isTaxed_250 : decode cL_isTaxed 250 = .ok (.iload 7, 2) := by decide +kernel
theorem dL_isTaxed_252 : decode cL_isTaxed 252 = .ok (.ifCond .ne 20, 3) := by decide +kernel
theorem dL_isTaxed_255 : decode cL_isTaxed 255 = .ok (.iload 4, 2) := by decide +kernel
theorem dL_isTaxed_257 : decode cL_isTaxed 257 = .ok (.ifCond .le 15, 3) := by decide +kernel
theorem dL_isTaxed_26 : decode cL_isTaxed 26 = .ok (.newarray .int, 2) := by decide +kernel
theorem dL_isTaxed_260 : decode cL_isTaxed 260 = .ok (.aload 5, 2) := by decide +kernel
theorem dL_isTaxed_262 : decode cL_isTaxed 262 = .ok (.aload_n 1, 1) := by decide +kernel
theorem dL_isTaxed_263 : decode cL_isTaxed 263 = .ok (.iload 4, 2) := by decide +kernel
theorem dL_isTaxed_265 : decode cL_isTaxed 265 = .ok (.invokestatic 13, 3) := by decide +kernel
theorem dL_isTaxed_268 : decode cL_isTaxed 268 = .ok (.laload, 1) := by decide +kernel
theorem dL_isTaxed_269 : decode cL_isTaxed 269 = .ok (.goto 33, 3) := by decide +kernel
theorem dL_isTaxed_272 : decode cL_isTaxed 272 = .ok (.aload_n 1, 1) := by decide +kernel
theorem dL_isTaxed_273 : decode cL_isTaxed 273 = .ok (.iconst 3, 1) := by decide +kernel
theorem dL_isTaxed_274 : decode cL_isTaxed 274 = .ok (.invokestatic 13, 3) := by decide +kernel
theorem dL_isTaxed_277 : decode cL_isTaxed 277 = .ok (.ifCond .ne 17, 3) := by decide +kernel
theorem dL_isTaxed_28 : decode cL_isTaxed 28 = .ok (.astore 6, 2) := by decide +kernel
theorem dL_isTaxed_280 : decode cL_isTaxed 280 = .ok (.aload_n 1, 1) := by decide +kernel
theorem dL_isTaxed_281 : decode cL_isTaxed 281 = .ok (.ldc 239, 2) := by decide +kernel
theorem dL_isTaxed_283 : decode cL_isTaxed 283 = .ok (.invokestatic 13, 3) := by decide +kernel
theorem dL_isTaxed_286 : decode cL_isTaxed 286 = .ok (.i2l, 1) := by decide +kernel
theorem dL_isTaxed_287 : decode cL_isTaxed 287 = .ok (.ldc2_w 240, 3) := by decide +kernel
theorem dL_isTaxed_290 : decode cL_isTaxed 290 = .ok (.lmul, 1) := by decide +kernel
theorem dL_isTaxed_291 : decode cL_isTaxed 291 = .ok (.goto 11, 3) := by decide +kernel
theorem dL_isTaxed_294 : decode cL_isTaxed 294 = .ok (.aload_n 1, 1) := by decide +kernel
theorem dL_isTaxed_295 : decode cL_isTaxed 295 = .ok (.sipush 5000, 3) := by decide +kernel
theorem dL_isTaxed_298 : decode cL_isTaxed 298 = .ok (.invokestatic 13, 3) := by decide +kernel
theorem dL_isTaxed_30 : decode cL_isTaxed 30 = .ok (.iconst 0, 1) := by decide +kernel
theorem dL_isTaxed_301 : decode cL_isTaxed 301 = .ok (.i2l, 1) := by decide +kernel
theorem dL_isTaxed_302 : decode cL_isTaxed 302 = .ok (.lstore 8, 2) := by decide +kernel
theorem dL_isTaxed_304 : decode cL_isTaxed 304 = .ok (.aload_n 0, 1) := by decide +kernel
theorem dL_isTaxed_305 : decode cL_isTaxed 305 = .ok (.bipush 20, 2) := by decide +kernel
theorem dL_isTaxed_307 : decode cL_isTaxed 307 = .ok (.lload 8, 2) := by decide +kernel
theorem dL_isTaxed_309 : decode cL_isTaxed 309 = .ok (.iconst 0, 1) := by decide +kernel
theorem dL_isTaxed_31 : decode cL_isTaxed 31 = .ok (.istore 7, 2) := by decide +kernel
theorem dL_isTaxed_310 : decode cL_isTaxed 310 = .ok (.iconst 0, 1) := by decide +kernel
theorem dL_isTaxed_311 : decode cL_isTaxed 311 = .ok (.invokestatic 161, 3) := by decide +kernel
theorem dL_isTaxed_314 : decode cL_isTaxed 314 = .ok (.aload 5, 2) := by decide +kernel
theorem dL_isTaxed_316 : decode cL_isTaxed 316 = .ok (.aload 6, 2) := by decide +kernel
theorem dL_isTaxed_318 : decode cL_isTaxed 318 = .ok (.lload 8, 2) := by decide +kernel
theorem dL_isTaxed_320 : decode cL_isTaxed 320 = .ok (.invokestatic 247, 3) := by decide +kernel
theorem dL_isTaxed_323 : decode cL_isTaxed 323 = .ok (.ldc2_w 240, 3) := by decide +kernel
theorem dL_isTaxed_326 : decode cL_isTaxed 326 = .ok (.iload_n 2, 1) := by decide +kernel
theorem dL_isTaxed_327 : decode cL_isTaxed 327 = .ok (.invokestatic 158, 3) := by decide +kernel
theorem dL_isTaxed_33 : decode cL_isTaxed 33 = .ok (.iload 7, 2) := by decide +kernel
theorem dL_isTaxed_330 : decode cL_isTaxed 330 = .ok (.lcmp, 1) := by decide +kernel
theorem dL_isTaxed_331 : decode cL_isTaxed 331 = .ok (.ifCond .eq 5, 3) := by decide +kernel
theorem dL_isTaxed_336 : decode cL_isTaxed 336 = .ok (.lload 8, 2) := by decide +kernel
theorem dL_isTaxed_338 : decode cL_isTaxed 338 = .ok (.ldc2_w 227, 3) := by decide +kernel
theorem dL_isTaxed_341 : decode cL_isTaxed 341 = .ok (.invokestatic 208, 3) := by decide +kernel
theorem dL_isTaxed_344 : decode cL_isTaxed 344 = .ok (.lstore 10, 2) := by decide +kernel
theorem dL_isTaxed_346 : decode cL_isTaxed 346 = .ok (.aload_n 0, 1) := by decide +kernel
theorem dL_isTaxed_347 : decode cL_isTaxed 347 = .ok (.lload 10, 2) := by decide +kernel
theorem dL_isTaxed_349 : decode cL_isTaxed 349 = .ok (.invokevirtual 98, 3) := by decide +kernel
theorem dL_isTaxed_35 : decode cL_isTaxed 35 = .ok (.iload 4, 2) := by decide +kernel
theorem dL_isTaxed_352 : decode cL_isTaxed 352 = .ok (.lstore 12, 2) := by decide +kernel
theorem dL_isTaxed_354 : decode cL_isTaxed 354 = .ok (.lload 12, 2) := by decide +kernel
theorem dL_isTaxed_356 : decode cL_isTaxed 356 = .ok (.ldc2_w 191, 3) := by decide +kernel
theorem dL_isTaxed_359 : decode cL_isTaxed 359 = .ok (.lcmp, 1) := by decide +kernel
theorem dL_isTaxed_360 : decode cL_isTaxed 360 = .ok (.ifCond .ne 29, 3) := by decide +kernel
theorem dL_isTaxed_363 : decode cL_isTaxed 363 = .ok (.ldc2_w 251, 3) := by decide +kernel
theorem dL_isTaxed_366 : decode cL_isTaxed 366 = .ok (.aload 5, 2) := by decide +kernel
theorem dL_isTaxed_368 : decode cL_isTaxed 368 = .ok (.aload 6, 2) := by decide +kernel
theorem dL_isTaxed_37 : decode cL_isTaxed 37 = .ok (.if_icmp .ge 117, 3) := by decide +kernel
theorem dL_isTaxed_370 : decode cL_isTaxed 370 = .ok (.ldc2_w 253, 3) := by decide +kernel
theorem dL_isTaxed_373 : decode cL_isTaxed 373 = .ok (.invokestatic 247, 3) := by decide +kernel
theorem dL_isTaxed_376 : decode cL_isTaxed 376 = .ok (.lsub, 1) := by decide +kernel
theorem dL_isTaxed_377 : decode cL_isTaxed 377 = .ok (.ldc2_w 240, 3) := by decide +kernel
theorem dL_isTaxed_380 : decode cL_isTaxed 380 = .ok (.lload 10, 2) := by decide +kernel
theorem dL_isTaxed_382 : decode cL_isTaxed 382 = .ok (.lmul, 1) := by decide +kernel
theorem dL_isTaxed_383 : decode cL_isTaxed 383 = .ok (.lcmp, 1) := by decide +kernel
theorem dL_isTaxed_384 : decode cL_isTaxed 384 = .ok (.ifCond .lt 70, 3) := by decide +kernel
theorem dL_isTaxed_389 : decode cL_isTaxed 389 = .ok (.ldc2_w 240, 3) := by decide +kernel
theorem dL_isTaxed_392 : decode cL_isTaxed 392 = .ok (.lload 12, 2) := by decide +kernel
theorem dL_isTaxed_394 : decode cL_isTaxed 394 = .ok (.lmul, 1) := by decide +kernel
theorem dL_isTaxed_395 : decode cL_isTaxed 395 = .ok (.aload 5, 2) := by decide +kernel
theorem dL_isTaxed_397 : decode cL_isTaxed 397 = .ok (.aload 6, 2) := by decide +kernel
theorem dL_isTaxed_399 : decode cL_isTaxed 399 = .ok (.lload 12, 2) := by decide +kernel
theorem dL_isTaxed_4 : decode cL_isTaxed 4 = .ok (.istore_n 2, 1) := by decide +kernel
theorem dL_isTaxed_40 : decode cL_isTaxed 40 = .ok (.aload 5, 2) := by decide +kernel
theorem dL_isTaxed_401 : decode cL_isTaxed 401 = .ok (.invokestatic 247, 3) := by decide +kernel
theorem dL_isTaxed_404 : decode cL_isTaxed 404 = .ok (.lsub, 1) := by decide +kernel
theorem dL_isTaxed_405 : decode cL_isTaxed 405 = .ok (.ldc2_w 240, 3) := by decide +kernel
theorem dL_isTaxed_408 : decode cL_isTaxed 408 = .ok (.lload 10, 2) := by decide +kernel
theorem dL_isTaxed_410 : decode cL_isTaxed 410 = .ok (.lmul, 1) := by decide +kernel
theorem dL_isTaxed_411 : decode cL_isTaxed 411 = .ok (.lcmp, 1) := by decide +kernel
theorem dL_isTaxed_412 : decode cL_isTaxed 412 = .ok (.ifCond .lt 40, 3) := by decide +kernel
theorem dL_isTaxed_415 : decode cL_isTaxed 415 = .ok (.lload 12, 2) := by decide +kernel
theorem dL_isTaxed_417 : decode cL_isTaxed 417 = .ok (.lconst 0, 1) := by decide +kernel
theorem dL_isTaxed_418 : decode cL_isTaxed 418 = .ok (.lcmp, 1) := by decide +kernel
theorem dL_isTaxed_419 : decode cL_isTaxed 419 = .ok (.ifCond .le 35, 3) := by decide +kernel
theorem dL_isTaxed_42 : decode cL_isTaxed 42 = .ok (.iload 7, 2) := by decide +kernel
theorem dL_isTaxed_422 : decode cL_isTaxed 422 = .ok (.ldc2_w 240, 3) := by decide +kernel
theorem dL_isTaxed_425 : decode cL_isTaxed 425 = .ok (.lload 12, 2) := by decide +kernel
theorem dL_isTaxed_427 : decode cL_isTaxed 427 = .ok (.lconst 1, 1) := by decide +kernel
theorem dL_isTaxed_428 : decode cL_isTaxed 428 = .ok (.lsub, 1) := by decide +kernel
theorem dL_isTaxed_429 : decode cL_isTaxed 429 = .ok (.lmul, 1) := by decide +kernel
theorem dL_isTaxed_430 : decode cL_isTaxed 430 = .ok (.aload 5, 2) := by decide +kernel
theorem dL_isTaxed_432 : decode cL_isTaxed 432 = .ok (.aload 6, 2) := by decide +kernel
theorem dL_isTaxed_434 : decode cL_isTaxed 434 = .ok (.lload 12, 2) := by decide +kernel
theorem dL_isTaxed_436 : decode cL_isTaxed 436 = .ok (.lconst 1, 1) := by decide +kernel
theorem dL_isTaxed_437 : decode cL_isTaxed 437 = .ok (.lsub, 1) := by decide +kernel
theorem dL_isTaxed_438 : decode cL_isTaxed 438 = .ok (.invokestatic 247, 3) := by decide +kernel
theorem dL_isTaxed_44 : decode cL_isTaxed 44 = .ok (.iload 7, 2) := by decide +kernel
theorem dL_isTaxed_441 : decode cL_isTaxed 441 = .ok (.lsub, 1) := by decide +kernel
theorem dL_isTaxed_442 : decode cL_isTaxed 442 = .ok (.ldc2_w 240, 3) := by decide +kernel
theorem dL_isTaxed_445 : decode cL_isTaxed 445 = .ok (.lload 10, 2) := by decide +kernel
theorem dL_isTaxed_447 : decode cL_isTaxed 447 = .ok (.lmul, 1) := by decide +kernel
theorem dL_isTaxed_448 : decode cL_isTaxed 448 = .ok (.lcmp, 1) := by decide +kernel
theorem dL_isTaxed_449 : decode cL_isTaxed 449 = .ok (.ifCond .lt 5, 3) := by decide +kernel
theorem dL_isTaxed_454 : decode cL_isTaxed 454 = .ok (.iinc 7 1, 3) := by decide +kernel
theorem dL_isTaxed_457 : decode cL_isTaxed 457 = .ok (.goto (-214), 3) := by decide +kernel
theorem dL_isTaxed_46 : decode cL_isTaxed 46 = .ok (.ifCond .ne 20, 3) := by decide +kernel
theorem dL_isTaxed_460 : decode cL_isTaxed 460 = .ok (.iconst 1, 1) := by decide +kernel
theorem dL_isTaxed_461 : decode cL_isTaxed 461 = .ok (.ireturn, 1) := by decide +kernel
theorem dL_isTaxed_49 : decode cL_isTaxed 49 = .ok (.aload_n 1, 1) := by decide +kernel
theorem dL_isTaxed_5 : decode cL_isTaxed 5 = .ok (.aload_n 0, 1) := by decide +kernel
theorem dL_isTaxed_50 : decode cL_isTaxed 50 = .ok (.iconst 2, 1) := by decide +kernel
theorem dL_isTaxed_51 : decode cL_isTaxed 51 = .ok (.invokestatic 13, 3) := by decide +kernel
theorem dL_isTaxed_54 : decode cL_isTaxed 54 = .ok (.aload_n 1, 1) := by decide +kernel
theorem dL_isTaxed_55 : decode cL_isTaxed 55 = .ok (.sipush 1000, 3) := by decide +kernel
theorem dL_isTaxed_58 : decode cL_isTaxed 58 = .ok (.invokestatic 13, 3) := by decide +kernel
theorem dL_isTaxed_6 : decode cL_isTaxed 6 = .ok (.invokevirtual 244, 3) := by decide +kernel
theorem dL_isTaxed_61 : decode cL_isTaxed 61 = .ok (.imul, 1) := by decide +kernel
theorem dL_isTaxed_62 : decode cL_isTaxed 62 = .ok (.i2l, 1) := by decide +kernel
theorem dL_isTaxed_63 : decode cL_isTaxed 63 = .ok (.goto 34, 3) := by decide +kernel
theorem dL_isTaxed_66 : decode cL_isTaxed 66 = .ok (.aload 5, 2) := by decide +kernel
theorem dL_isTaxed_68 : decode cL_isTaxed 68 = .ok (.iload 7, 2) := by decide +kernel
theorem dL_isTaxed_70 : decode cL_isTaxed 70 = .ok (.iconst 1, 1) := by decide +kernel
theorem dL_isTaxed_71 : decode cL_isTaxed 71 = .ok (.isub, 1) := by decide +kernel
theorem dL_isTaxed_72 : decode cL_isTaxed 72 = .ok (.laload, 1) := by decide +kernel
theorem dL_isTaxed_73 : decode cL_isTaxed 73 = .ok (.lconst 1, 1) := by decide +kernel
theorem dL_isTaxed_74 : decode cL_isTaxed 74 = .ok (.ladd, 1) := by decide +kernel
theorem dL_isTaxed_75 : decode cL_isTaxed 75 = .ok (.aload_n 1, 1) := by decide +kernel
theorem dL_isTaxed_76 : decode cL_isTaxed 76 = .ok (.aload_n 1, 1) := by decide +kernel
theorem dL_isTaxed_77 : decode cL_isTaxed 77 = .ok (.iconst 3, 1) := by decide +kernel
theorem dL_isTaxed_78 : decode cL_isTaxed 78 = .ok (.invokestatic 13, 3) := by decide +kernel
theorem dL_isTaxed_81 : decode cL_isTaxed 81 = .ok (.ifCond .ne 8, 3) := by decide +kernel
theorem dL_isTaxed_84 : decode cL_isTaxed 84 = .ok (.ldc 207, 2) := by decide +kernel
theorem dL_isTaxed_86 : decode cL_isTaxed 86 = .ok (.goto 6, 3) := by decide +kernel
theorem dL_isTaxed_89 : decode cL_isTaxed 89 = .ok (.sipush 1000, 3) := by decide +kernel
theorem dL_isTaxed_9 : decode cL_isTaxed 9 = .ok (.istore_n 3, 1) := by decide +kernel
theorem dL_isTaxed_92 : decode cL_isTaxed 92 = .ok (.invokestatic 13, 3) := by decide +kernel
theorem dL_isTaxed_95 : decode cL_isTaxed 95 = .ok (.i2l, 1) := by decide +kernel
theorem dL_isTaxed_96 : decode cL_isTaxed 96 = .ok (.ladd, 1) := by decide +kernel
theorem dL_isTaxed_97 : decode cL_isTaxed 97 = .ok (.lastore, 1) := by decide +kernel
theorem dL_isTaxed_98 : decode cL_isTaxed 98 = .ok (.aload 6, 2) := by decide +kernel
set_option maxRecDepth 20000 in
theorem gpL_isTaxed_L_asks_wsL_asks_r1 : GoodIn wsL_isTaxed wsL_asks_r1 := goodIn_r _ [73, 74, 75, 76, 4, 5, 77, 78, 79, 19, 80, 81, 82, 83, 84, 21, 52, 53, 54, 55, 56, 57, 58, 59] (by decide +kernel) (by decide +kernel)
theorem gpL_isTaxed_L_asks_wsL_asks_r2 : GoodIn wsL_isTaxed wsL_asks_r2 := goodIn_r _ [85, 86, 87, 88, 89, 90, 91, 11, 92, 93, 94, 95, 96, 97, 98, 99, 100, 61, 62, 63, 64, 101, 102, 103] (by decide +kernel) (by decide +kernel)
theorem gpL_isTaxed_L_asks_wsL_asks_r3 : GoodIn wsL_isTaxed wsL_asks_r3 := goodIn_r _ [104, 105, 106, 107, 108, 109, 110, 111, 44, 112, 113, 114, 115, 116, 117, 118, 119, 120, 121, 122, 123, 124, 125, 126] (by decide +kernel) (by decide +kernel)
theorem gpL_isTaxed_L_asks_wsL_asks_r4 : GoodIn wsL_isTaxed wsL_asks_r4 := goodIn_r _ [127, 128, 129, 130, 131, 132, 133, 134, 135, 136, 137, 138, 139, 140, 141, 142, 143, 144, 145, 146, 147, 148, 149, 150] (by decide +kernel) (by decide +kernel)
theorem gpL_isTaxed_L_asks_wsL_asks_r5 : GoodIn wsL_isTaxed wsL_asks_r5 := goodIn_r _ [151, 152, 153, 154, 155, 156, 157, 158, 159, 160, 161, 162, 163, 164, 165, 166, 167, 168, 169, 170, 171, 172, 173, 174] (by decide +kernel) (by decide +kernel)
theorem gpL_isTaxed_L_asks_wsL_asks_r6 : GoodIn wsL_isTaxed wsL_asks_r6 := goodIn_r _ [175, 176, 177, 178, 179, 180, 181, 182, 183, 184, 185, 186, 187, 188, 189, 190, 191, 192, 193, 194, 195, 196, 197, 198] (by decide +kernel) (by decide +kernel)
theorem gpL_isTaxed_L_asks_wsL_asks_r7 : GoodIn wsL_isTaxed wsL_asks_r7 := goodIn_r _ [199, 200, 201, 202, 203, 204, 205, 206, 207, 208, 209, 210, 211, 212, 213, 214, 215, 216, 217, 218, 1, 219, 220, 221] (by decide +kernel) (by decide +kernel)
theorem gpL_isTaxed_L_asks_wsL_asks_r8 : GoodIn wsL_isTaxed wsL_asks_r8 := goodIn_r _ [222, 223, 224, 225, 226, 227, 228, 229, 230, 231, 232, 233, 234, 235, 236, 237, 238, 239, 240, 241, 242, 243, 244, 245] (by decide +kernel) (by decide +kernel)
theorem gpL_isTaxed_L_asks_wsL_asks_r9 : GoodIn wsL_isTaxed wsL_asks_r9 := goodIn_r _ [246, 247, 248, 249, 250, 251, 252, 253, 254, 255, 256, 257, 258, 259, 260, 261, 262, 263, 264, 265, 266, 267, 268, 269] (by decide +kernel) (by decide +kernel)
theorem gpL_isTaxed_L_asks_wsL_asks_r10 : GoodIn wsL_isTaxed wsL_asks_r10 := goodIn_r _ [270, 271, 272, 273, 274, 275, 276, 277, 278, 279, 60, 280, 281, 282, 283, 284, 285, 286, 287, 288, 289, 290, 291, 292] (by decide +kernel) (by decide +kernel)
theorem gpL_isTaxed_L_asks_wsL_asks_r11 : GoodIn wsL_isTaxed wsL_asks_r11 := goodIn_r _ [293, 294, 295, 296, 297, 298, 299, 300, 301, 302, 303, 304, 305, 306, 307, 308, 309, 310, 311, 312, 313, 314, 315, 316] (by decide +kernel) (by decide +kernel)
theorem gpL_isTaxed_L_asks_wsL_asks_r12 : GoodIn wsL_isTaxed wsL_asks_r12 := goodIn_r _ [317, 318, 319, 320, 321, 322, 323, 324, 325, 326, 327, 328, 329, 330, 331, 332, 333, 10, 12, 334, 335, 336, 337, 338] (by decide +kernel) (by decide +kernel)
theorem gpL_isTaxed_L_asks_wsL_asks_r13 : GoodIn wsL_isTaxed wsL_asks_r13 := goodIn_r _ [339, 340, 341, 342, 343, 344, 345, 346, 347, 348, 349, 350, 351, 352, 353, 354, 355, 356, 357, 358, 359, 360, 361, 362] (by decide +kernel) (by decide +kernel)
theorem gpL_isTaxed_L_asks_wsL_asks_r14 : GoodIn wsL_isTaxed wsL_asks_r14 := goodIn_r _ [363, 364, 365, 366, 367, 368, 369, 370, 371, 372, 373, 374, 375, 376, 377, 378, 379, 380, 381, 382, 383, 384, 385, 386] (by decide +kernel) (by decide +kernel)
theorem gpL_isTaxed_L_asks_wsL_asks_r15 : GoodIn wsL_isTaxed wsL_asks_r15 := goodIn_r _ [387, 388, 389, 390, 391, 392, 393, 394, 395, 396, 397, 398, 399, 400, 401, 402, 403, 404, 405, 406, 407, 408, 409, 410] (by decide +kernel) (by decide +kernel)
theorem gpL_isTaxed_L_asks_wsL_asks_r16 : GoodIn wsL_isTaxed wsL_asks_r16 := goodIn_r _ [411, 412, 413, 414, 415, 416, 417, 418, 419, 420, 421, 422, 423, 424, 425, 426, 427, 428, 429, 430, 431, 432, 433, 434] (by decide +kernel) (by decide +kernel)
theorem gpL_isTaxed_L_asks_wsL_asks_r17 : GoodIn wsL_isTaxed wsL_asks_r17 := goodIn_r _ [435, 436, 437, 438, 439, 440, 441, 442, 443, 444, 445, 446, 447, 448, 449, 450, 451, 452, 453, 454, 455, 456, 457, 458] (by decide +kernel) (by decide +kernel)
theorem gpL_isTaxed_L_asks_wsL_asks_r18 : GoodIn wsL_isTaxed wsL_asks_r18 := goodIn_r _ [459, 460, 461, 462, 463, 464, 465, 466, 467, 468, 469, 470, 471, 472, 473, 474, 475, 476, 477, 478, 479, 480, 481, 482] (by decide +kernel) (by decide +kernel)
theorem gpL_isTaxed_L_asks_wsL_asks_r19 : GoodIn wsL_isTaxed wsL_asks_r19 := goodIn_r _ [483, 484, 485, 486, 487, 488, 489, 490, 491, 492, 493, 494, 495, 496, 497, 498, 499, 500, 501, 502, 503, 504, 505, 506] (by decide +kernel) (by decide +kernel)
theorem gpL_isTaxed_L_asks_wsL_asks_r20 : GoodIn wsL_isTaxed wsL_asks_r20 := goodIn_r _ [507, 508, 509, 510, 511, 512, 40, 41, 42, 43, 27, 45, 46, 47, 48, 49, 31, 50, 33, 51, 65, 66, 67, 68] (by decide +kernel) (by decide +kernel)
theorem gpL_isTaxed_L_asks_wsL_asks_r21 : GoodIn wsL_isTaxed wsL_asks_r21 := goodIn_r _ [69, 513, 514, 515, 516, 517, 518, 519, 520, 521, 522, 523, 524, 525, 526, 527, 528, 529, 530, 531, 532, 533, 534, 535] (by decide +kernel) (by decide +kernel)
theorem gpL_isTaxed_L_asks_wsL_asks_r22 : GoodIn wsL_isTaxed wsL_asks_r22 := goodIn_r _ [536, 537, 538, 539, 540, 541, 542, 543, 544, 545, 546, 547, 548, 549, 550, 551, 552, 553, 554, 555, 556, 557, 558, 559] (by decide +kernel) (by decide +kernel)
theorem gpL_isTaxed_L_asks_wsL_asks_r23 : GoodIn wsL_isTaxed wsL_asks_r23 := goodIn_r _ [22, 560, 561, 562, 563, 564, 565, 566, 567, 568, 569, 570, 571, 572, 573, 574, 575, 576, 577, 578, 579, 580, 581, 582] (by decide +kernel) (by decide +kernel)
theorem gpL_isTaxed_L_asks_wsL_asks_r24 : GoodIn wsL_isTaxed wsL_asks_r24 := goodIn_r _ [583] (by decide +kernel) (by decide +kernel)
theorem gpL_isTaxed_L_asks_wsX90 : GoodIn wsL_isTaxed wsX90 := goodIn_r _ [600, 601, 602, 603, 604, 605, 606, 607] (by decide +kernel) (by decide +kernel)
theorem gpL_isTaxed_L_asks_wsX40 : GoodIn wsL_isTaxed wsX40 := goodIn_r _ [608] (by decide +kernel) (by decide +kernel)
theorem gpL_isTaxed_L_asks_wsX50 : GoodIn wsL_isTaxed wsX50 := goodIn_r _ [612, 613, 614] (by decide +kernel) (by decide +kernel)
theorem gpL_isTaxed_L_asks_wsX10 : GoodIn wsL_isTaxed wsX10 := goodIn_r _ [615, 616, 617, 618, 619, 620] (by decide +kernel) (by decide +kernel)
theorem gpL_isTaxed_L_asks_wsX80 : GoodIn wsL_isTaxed wsX80 := goodIn_r _ [621, 622, 623] (by decide +kernel) (by decide +kernel)
theorem gpL_isTaxed_L_asks_wsX30 : GoodIn wsL_isTaxed wsX30 := goodIn_r _ [624, 625, 626, 627, 628, 629, 630, 631] (by decide +kernel) (by decide +kernel)
theorem gpL_isTaxed_L_asks_wsX00 : GoodIn wsL_isTaxed wsX00 := goodIn_r _ [632] (by decide +kernel) (by decide +kernel)
theorem gpL_isTaxed_L_asks_wsX20 : GoodIn wsL_isTaxed wsX20 := goodIn_r _ [633, 634, 635, 636] (by decide +kernel) (by decide +kernel)
theorem gpL_isTaxed_L_asks_wsX60 : GoodIn wsL_isTaxed wsX60 := goodIn_r _ [637, 638] (by decide +kernel) (by decide +kernel)
theorem gpL_isTaxed_L_asks_wsX70 : GoodIn wsL_isTaxed wsX70 := goodIn_r _ [609, 610, 611] (by decide +kernel) (by decide +kernel)
theorem ggL_isTaxed_L_asks : GoodIn wsL_isTaxed wsL_asks := goodIn_ca (goodIn_ca (goodIn_ca (goodIn_cons (goodIn_r [_] [72] (by decide +kernel) (by decide +kernel)) (goodIn_app (goodIn_app (goodIn_app (goodIn_app (goodIn_app (goodIn_app (goodIn_app (goodIn_app (goodIn_app (goodIn_app (goodIn_app gpL_isTaxed_L_asks_wsL_asks_r1 (goodIn_app gpL_isTaxed_L_asks_wsL_asks_r2 (goodIn_app gpL_isTaxed_L_asks_wsL_asks_r3 (goodIn_app gpL_isTaxed_L_asks_wsL_asks_r4 (goodIn_app gpL_isTaxed_L_asks_wsL_asks_r5 (goodIn_app gpL_isTaxed_L_asks_wsL_asks_r6 (goodIn_app gpL_isTaxed_L_asks_wsL_asks_r7 (goodIn_app gpL_isTaxed_L_asks_wsL_asks_r8 (goodIn_app gpL_isTaxed_L_asks_wsL_asks_r9 (goodIn_app gpL_isTaxed_L_asks_wsL_asks_r10 (goodIn_app gpL_isTaxed_L_asks_wsL_asks_r11 (goodIn_app gpL_isTaxed_L_asks_wsL_asks_r12 (goodIn_app gpL_isTaxed_L_asks_wsL_asks_r13 (goodIn_app gpL_isTaxed_L_asks_wsL_asks_r14 (goodIn_app gpL_isTaxed_L_asks_wsL_asks_r15 (goodIn_app gpL_isTaxed_L_asks_wsL_asks_r16 (goodIn_app gpL_isTaxed_L_asks_wsL_asks_r17 (goodIn_app gpL_isTaxed_L_asks_wsL_asks_r18 (goodIn_app gpL_isTaxed_L_asks_wsL_asks_r19 (goodIn_app gpL_isTaxed_L_asks_wsL_asks_r20 (goodIn_app gpL_isTaxed_L_asks_wsL_asks_r21 (goodIn_app gpL_isTaxed_L_asks_wsL_asks_r22 (goodIn_app gpL_isTaxed_L_asks_wsL_asks_r23 (gpL_isTaxed_L_asks_wsL_asks_r24)))))))))))))))))))))))) gpL_isTaxed_L_asks_wsX90) gpL_isTaxed_L_asks_wsX40) gpL_isTaxed_L_asks_wsX50) gpL_isTaxed_L_asks_wsX10) gpL_isTaxed_L_asks_wsX80) gpL_isTaxed_L_asks_wsX30) gpL_isTaxed_L_asks_wsX00) gpL_isTaxed_L_asks_wsX20) gpL_isTaxed_L_asks_wsX60) gpL_isTaxed_L_asks_wsX70)) (goodIn_sub (fun _ h => List.mem_cons_of_mem _ (List.mem_append_left _ (List.mem_append_left _ (List.mem_append_right _ h)))) (by decide +kernel))) (goodIn_sub (fun _ h => List.mem_cons_of_mem _ (List.mem_append_left _ (List.mem_append_right _ h))) (by decide +kernel))) (goodIn_sub (fun _ h => List.mem_cons_of_mem _ (List.mem_append_right _ h)) (by decide +kernel))
set_option maxRecDepth 20000 in
theorem gL_isTaxed_L_asks : GoodIn wsL_isTaxed (va_wsS RL 161 yL_asks wsL_asks) := goodIn_app (goodIn_of _ (by decide +kernel)) ggL_isTaxed_L_asks
set_option maxRecDepth 20000 in
theorem ggL_isTaxed_L_draw : GoodIn wsL_isTaxed wsL_draw := goodIn_r _ [37, 38, 39] (by decide +kernel) (by decide +kernel)
set_option maxRecDepth 20000 in
theorem gL_isTaxed_L_draw : GoodIn wsL_isTaxed (va_wsS RL 13 yL_draw wsL_draw) := goodIn_app (goodIn_of _ (by decide +kernel)) ggL_isTaxed_L_draw
set_option maxRecDepth 20000 in
theorem ggL_isTaxed_L_rounded : GoodIn wsL_isTaxed wsL_rounded := goodIn_r _ [590, 591, 5, 592, 593, 594, 595, 596, 597, 598, 599] (by decide +kernel) (by decide +kernel)
set_option maxRecDepth 20000 in
theorem gL_isTaxed_L_rounded : GoodIn wsL_isTaxed (va_wsS RL 158 yL_rounded wsL_rounded) := goodIn_app (goodIn_of _ (by decide +kernel)) ggL_isTaxed_L_rounded
set_option maxRecDepth 20000 in
theorem ggL_isTaxed_L_thousandfold : GoodIn wsL_isTaxed wsL_thousandfold := goodIn_r _ [586, 9, 10, 11, 12, 587, 173, 174] (by decide +kernel) (by decide +kernel)
set_option maxRecDepth 20000 in
theorem gL_isTaxed_L_thousandfold : GoodIn wsL_isTaxed (va_wsS RL 247 yL_thousandfold wsL_thousandfold) := goodIn_app (goodIn_of _ (by decide +kernel)) ggL_isTaxed_L_thousandfold
set_option maxRecDepth 20000 in
theorem ggL_isTaxed_X9_clearSteps : GoodIn wsL_isTaxed wsX9_clearSteps := goodIn_r _ [26, 27, 28, 29, 30, 31, 32, 33, 600, 601, 602, 603, 604, 605, 606, 607, 609, 610, 611] (by decide +kernel) (by decide +kernel)
set_option maxRecDepth 20000 in
theorem gL_isTaxed_X9_clearSteps : GoodIn wsL_isTaxed (wsV RL 244 RX9 yX9_clearSteps wsX9_clearSteps) := goodIn_app (goodIn_of _ (by decide +kernel)) ggL_isTaxed_X9_clearSteps
set_option maxRecDepth 20000 in
theorem ggL_isTaxed_X9_mode : GoodIn wsL_isTaxed wsX9_mode := goodIn_r _ [20, 21, 22, 600, 601, 602, 603, 604, 605, 606, 607, 608] (by decide +kernel) (by decide +kernel)
set_option maxRecDepth 20000 in
theorem gL_isTaxed_X9_mode : GoodIn wsL_isTaxed (wsV RL 147 RX9 yX9_mode wsX9_mode) := goodIn_app (goodIn_of _ (by decide +kernel)) ggL_isTaxed_X9_mode
set_option maxRecDepth 20000 in
theorem ggL_isTaxed_X9_step : GoodIn wsL_isTaxed wsX9_step := goodIn_ca (goodIn_ca (goodIn_r _ [43, 27, 44, 45, 46, 47, 48, 49, 31, 50, 33, 51, 52, 53, 19, 54, 55, 56, 57, 58, 59, 60, 61, 62, 63, 64, 65, 66, 67, 68, 69, 600, 601, 602, 603, 604, 605, 606, 607, 609, 610, 611] (by decide +kernel) (by decide +kernel)) (goodIn_sub (fun _ h => List.mem_cons_of_mem _ (List.mem_append_left _ (List.mem_append_left _ (List.mem_append_right _ h)))) (by decide +kernel))) (goodIn_sub (fun _ h => List.mem_cons_of_mem _ (List.mem_append_left _ (List.mem_append_right _ h))) (by decide +kernel))
set_option maxRecDepth 20000 in
theorem gL_isTaxed_X9_step : GoodIn wsL_isTaxed (wsV RL 90 RX9 yX9_step wsX9_step) := goodIn_app (goodIn_of _ (by decide +kernel)) ggL_isTaxed_X9_step
set_option maxRecDepth 20000 in
theorem ggL_isTaxed_X9_untaxed : GoodIn wsL_isTaxed wsX9_untaxed := goodIn_ca (goodIn_r _ [526, 44, 27, 52, 53, 19, 54, 55, 56, 57, 58, 59, 527, 528, 529, 31, 530, 531, 532, 533, 534, 535, 536, 537, 538, 539, 540, 518, 519, 520, 33, 51, 521, 10, 11, 12, 522, 173, 174, 69, 600, 601, 602, 603, 604, 605, 606, 607, 609, 610, 611] (by decide +kernel) (by decide +kernel)) (goodIn_sub (fun _ h => List.mem_cons_of_mem _ (List.mem_append_left _ (List.mem_append_left _ (List.mem_append_right _ h)))) (by decide +kernel))
set_option maxRecDepth 20000 in
theorem gL_isTaxed_X9_untaxed : GoodIn wsL_isTaxed (wsV RL 98 RX9 yX9_untaxed wsX9_untaxed) := goodIn_app (goodIn_of _ (by decide +kernel)) ggL_isTaxed_X9_untaxed
