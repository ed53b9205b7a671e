-- printed rows that the walks use
theorem dL_isLoan_0 : decode cL_isLoan 0 = .ok (.aload_n 0, 1) := by decide +kernel
theorem dL_isLoan_1 : decode cL_isLoan 1 = .ok (.invokevirtual 147, 3) := by decide +kernel
theorem dL_isLoan_10 : decode cL_isLoan 10 = .ok (.ifCond .ne 14, 3) := by decide +kernel
theorem dL_isLoan_100 : decode cL_isLoan 100 = .ok (.invokevirtual 39, 3) := by decide +kernel
theorem dL_isLoan_103 : decode cL_isLoan 103 = .ok (.lstore 7, 2) := by decide +kernel
theorem dL_isLoan_105 : decode cL_isLoan 105 = .ok (.bipush 62, 2) := by decide +kernel
theorem dL_isLoan_107 : decode cL_isLoan 107 = .ok (.newarray .boolean, 2) := by decide +kernel
theorem dL_isLoan_109 : decode cL_isLoan 109 = .ok (.astore 9, 2) := by decide +kernel
theorem dL_isLoan_111 : decode cL_isLoan 111 = .ok (.bipush 62, 2) := by decide +kernel
theorem dL_isLoan_113 : decode cL_isLoan 113 = .ok (.newarray .int, 2) := by decide +kernel
theorem dL_isLoan_115 : decode cL_isLoan 115 = .ok (.astore 10, 2) := by decide +kernel
theorem dL_isLoan_117 : decode cL_isLoan 117 = .ok (.bipush 62, 2) := by decide +kernel
theorem dL_isLoan_119 : decode cL_isLoan 119 = .ok (.newarray .long, 2) := by decide +kernel
theorem dL_isLoan_121 : decode cL_isLoan 121 = .ok (.astore 11, 2) := by decide +kernel
theorem dL_isLoan_123 : decode cL_isLoan 123 = .ok (.iconst 0, 1) := by decide +kernel
theorem dL_isLoan_124 : decode cL_isLoan 124 = .ok (.istore 12, 2) := by decide +kernel
theorem dL_isLoan_126 : decode cL_isLoan 126 = .ok (.iload 12, 2) := by decide +kernel
theorem dL_isLoan_128 : decode cL_isLoan 128 = .ok (.bipush 62, 2) := by decide +kernel
theorem dL_isLoan_13 : decode cL_isLoan 13 = .ok (.iconst 1, 1) := by decide +kernel
theorem dL_isLoan_130 : decode cL_isLoan 130 = .ok (.if_icmp .ge 15, 3) := by decide +kernel
theorem dL_isLoan_133 : decode cL_isLoan 133 = .ok (.aload 10, 2) := by decide +kernel
theorem dL_isLoan_135 : decode cL_isLoan 135 = .ok (.iload 12, 2) := by decide +kernel
theorem dL_isLoan_137 : decode cL_isLoan 137 = .ok (.iconst (-1), 1) := by decide +kernel
theorem dL_isLoan_138 : decode cL_isLoan 138 = .ok (.iastore, 1) := by decide +kernel
theorem dL_isLoan_139 : decode cL_isLoan 139 = .ok (.iinc 12 1, 3) := by decide +kernel
theorem dL_isLoan_14 : decode cL_isLoan 14 = .ok (.aload_n 1, 1) := by decide +kernel
theorem dL_isLoan_142 : decode cL_isLoan 142 = .ok (.goto (-16), 3) := by decide +kernel
theorem dL_isLoan_145 : decode cL_isLoan 145 = .ok (.aload_n 1, 1) := by decide +kernel
theorem dL_isLoan_146 : decode cL_isLoan 146 = .ok (.iconst 5, 1) := by decide +kernel
theorem dL_isLoan_147 : decode cL_isLoan 147 = .ok (.invokestatic 13, 3) := by decide +kernel
theorem dL_isLoan_15 : decode cL_isLoan 15 = .ok (.bipush 60, 2) := by decide +kernel
theorem dL_isLoan_150 : decode cL_isLoan 150 = .ok (.istore 12, 2) := by decide +kernel
theorem dL_isLoan_152 : decode cL_isLoan 152 = .ok (.iload 12, 2) := by decide +kernel
theorem dL_isLoan_154 : decode cL_isLoan 154 = .ok (.ifCond .le 273, 3) := by decide +kernel
theorem dL_isLoan_157 : decode cL_isLoan 157 = .ok (.aload_n 1, 1) := by decide +kernel
theorem dL_isLoan_158 : decode cL_isLoan 158 = .ok (.iconst 3, 1) := by decide +kernel
theorem dL_isLoan_159 : decode cL_isLoan 159 = .ok (.invokestatic 13, 3) := by decide +kernel
theorem dL_isLoan_162 : decode cL_isLoan 162 = .ok (.istore 13, 2) := by decide +kernel
theorem dL_isLoan_164 : decode cL_isLoan 164 = .ok (.iconst 1, 1) := by decide +kernel
theorem dL_isLoan_165 : decode cL_isLoan 165 = .ok (.aload_n 1, 1) := by decide +kernel
theorem dL_isLoan_166 : decode cL_isLoan 166 = .ok (.iload_n 3, 1) := by decide +kernel
theorem dL_isLoan_167 : decode cL_isLoan 167 = .ok (.invokestatic 13, 3) := by decide +kernel
theorem dL_isLoan_17 : decode cL_isLoan 17 = .ok (.invokestatic 13, 3) := by decide +kernel
theorem dL_isLoan_170 : decode cL_isLoan 170 = .ok (.iadd, 1) := by decide +kernel
theorem dL_isLoan_171 : decode cL_isLoan 171 = .ok (.istore 14, 2) := by decide +kernel
theorem dL_isLoan_173 : decode cL_isLoan 173 = .ok (.iload 13, 2) := by decide +kernel
theorem dL_isLoan_175 : decode cL_isLoan 175 = .ok (.ifCond .ne 79, 3) := by decide +kernel
theorem dL_isLoan_178 : decode cL_isLoan 178 = .ok (.iload 14, 2) := by decide +kernel
theorem dL_isLoan_180 : decode cL_isLoan 180 = .ok (.iload_n 3, 1) := by decide +kernel
theorem dL_isLoan_181 : decode cL_isLoan 181 = .ok (.if_icmp .ge 73, 3) := by decide +kernel
theorem dL_isLoan_184 : decode cL_isLoan 184 = .ok (.aload_n 0, 1) := by decide +kernel
theorem dL_isLoan_185 : decode cL_isLoan 185 = .ok (.bipush 6, 2) := by decide +kernel
theorem dL_isLoan_187 : decode cL_isLoan 187 = .ok (.lconst 0, 1) := by decide +kernel
theorem dL_isLoan_188 : decode cL_isLoan 188 = .ok (.iload 14, 2) := by decide +kernel
theorem dL_isLoan_190 : decode cL_isLoan 190 = .ok (.iconst 0, 1) := by decide +kernel
theorem dL_isLoan_191 : decode cL_isLoan 191 = .ok (.invokestatic 161, 3) := by decide +kernel
theorem dL_isLoan_194 : decode cL_isLoan 194 = .ok (.lstore 15, 2) := by decide +kernel
theorem dL_isLoan_196 : decode cL_isLoan 196 = .ok (.iload_n 2, 1) := by decide +kernel
theorem dL_isLoan_197 : decode cL_isLoan 197 = .ok (.bipush 7, 2) := by decide +kernel
theorem dL_isLoan_199 : decode cL_isLoan 199 = .ok (.if_icmp .ne 15, 3) := by decide +kernel
theorem dL_isLoan_20 : decode cL_isLoan 20 = .ok (.iadd, 1) := by decide +kernel
theorem dL_isLoan_202 : decode cL_isLoan 202 = .ok (.lload 15, 2) := by decide +kernel
theorem dL_isLoan_204 : decode cL_isLoan 204 = .ok (.ldc2_w 131, 3) := by decide +kernel
theorem dL_isLoan_207 : decode cL_isLoan 207 = .ok (.lcmp, 1) := by decide +kernel
theorem dL_isLoan_208 : decode cL_isLoan 208 = .ok (.ifCond .ne 6, 3) := by decide +kernel
theorem dL_isLoan_21 : decode cL_isLoan 21 = .ok (.goto 11, 3) := by decide +kernel
theorem dL_isLoan_211 : decode cL_isLoan 211 = .ok (.goto 210, 3) := by decide +kernel
theorem dL_isLoan_214 : decode cL_isLoan 214 = .ok (.aload 9, 2) := by decide +kernel
theorem dL_isLoan_216 : decode cL_isLoan 216 = .ok (.iload 14, 2) := by decide +kernel
theorem dL_isLoan_218 : decode cL_isLoan 218 = .ok (.aload 9, 2) := by decide +kernel
theorem dL_isLoan_220 : decode cL_isLoan 220 = .ok (.iload 14, 2) := by decide +kernel
theorem dL_isLoan_222 : decode cL_isLoan 222 = .ok (.baload, 1) := by decide +kernel
theorem dL_isLoan_223 : decode cL_isLoan 223 = .ok (.ifCond .ne 7, 3) := by decide +kernel
theorem dL_isLoan_226 : decode cL_isLoan 226 = .ok (.iconst 1, 1) := by decide +kernel
theorem dL_isLoan_227 : decode cL_isLoan 227 = .ok (.goto 4, 3) := by decide +kernel
theorem dL_isLoan_230 : decode cL_isLoan 230 = .ok (.iconst 0, 1) := by decide +kernel
theorem dL_isLoan_231 : decode cL_isLoan 231 = .ok (.bastore, 1) := by decide +kernel
theorem dL_isLoan_232 : decode cL_isLoan 232 = .ok (.lload 15, 2) := by decide +kernel
theorem dL_isLoan_234 : decode cL_isLoan 234 = .ok (.aload 9, 2) := by decide +kernel
theorem dL_isLoan_236 : decode cL_isLoan 236 = .ok (.iload 14, 2) := by decide +kernel
theorem dL_isLoan_238 : decode cL_isLoan 238 = .ok (.baload, 1) := by decide +kernel
theorem dL_isLoan_239 : decode cL_isLoan 239 = .ok (.ifCond .eq 7, 3) := by decide +kernel
theorem dL_isLoan_24 : decode cL_isLoan 24 = .ok (.iconst 1, 1) := by decide +kernel
theorem dL_isLoan_242 : decode cL_isLoan 242 = .ok (.iconst 1, 1) := by decide +kernel
theorem dL_isLoan_243 : decode cL_isLoan 243 = .ok (.goto 4, 3) := by decide +kernel
theorem dL_isLoan_246 : decode cL_isLoan 246 = .ok (.iconst 0, 1) := by decide +kernel
theorem dL_isLoan_247 : decode cL_isLoan 247 = .ok (.i2l, 1) := by decide +kernel
theorem dL_isLoan_248 : decode cL_isLoan 248 = .ok (.lcmp, 1) := by decide +kernel
theorem dL_isLoan_249 : decode cL_isLoan 249 = .ok (.ifCond .eq 5, 3) := by decide +kernel
theorem dL_isLoan_25 : decode cL_isLoan 25 = .ok (.aload_n 1, 1) := by decide +kernel
theorem dL_isLoan_254 : decode cL_isLoan 254 = .ok (.iload 13, 2) := by decide +kernel
theorem dL_isLoan_256 : decode cL_isLoan 256 = .ok (.iconst 1, 1) := by decide +kernel
theorem dL_isLoan_257 : decode cL_isLoan 257 = .ok (.if_icmp .ne 76, 3) := by decide +kernel
theorem dL_isLoan_26 : decode cL_isLoan 26 = .ok (.bipush 12, 2) := by decide +kernel
theorem dL_isLoan_260 : decode cL_isLoan 260 = .ok (.iload 14, 2) := by decide +kernel
theorem dL_isLoan_262 : decode cL_isLoan 262 = .ok (.iconst 1, 1) := by decide +kernel
theorem dL_isLoan_263 : decode cL_isLoan 263 = .ok (.if_icmp .le 70, 3) := by decide +kernel
theorem dL_isLoan_266 : decode cL_isLoan 266 = .ok (.iload_n 2, 1) := by decide +kernel
theorem dL_isLoan_267 : decode cL_isLoan 267 = .ok (.bipush 7, 2) := by decide +kernel
theorem dL_isLoan_269 : decode cL_isLoan 269 = .ok (.if_icmp .ne 7, 3) := by decide +kernel
theorem dL_isLoan_272 : decode cL_isLoan 272 = .ok (.iconst 0, 1) := by decide +kernel
theorem dL_isLoan_273 : decode cL_isLoan 273 = .ok (.goto 7, 3) := by decide +kernel
theorem dL_isLoan_276 : decode cL_isLoan 276 = .ok (.aload_n 1, 1) := by decide +kernel
theorem dL_isLoan_277 : decode cL_isLoan 277 = .ok (.invokestatic 173, 3) := by decide +kernel
theorem dL_isLoan_28 : decode cL_isLoan 28 = .ok (.invokestatic 13, 3) := by decide +kernel
theorem dL_isLoan_280 : decode cL_isLoan 280 = .ok (.istore 15, 2) := by decide +kernel
theorem dL_isLoan_282 : decode cL_isLoan 282 = .ok (.aload_n 0, 1) := by decide +kernel
theorem dL_isLoan_283 : decode cL_isLoan 283 = .ok (.bipush 7, 2) := by decide +kernel
theorem dL_isLoan_285 : decode cL_isLoan 285 = .ok (.lconst 0, 1) := by decide +kernel
theorem dL_isLoan_286 : decode cL_isLoan 286 = .ok (.iload 14, 2) := by decide +kernel
theorem dL_isLoan_288 : decode cL_isLoan 288 = .ok (.iload 15, 2) := by decide +kernel
theorem dL_isLoan_290 : decode cL_isLoan 290 = .ok (.invokestatic 161, 3) := by decide +kernel
theorem dL_isLoan_293 : decode cL_isLoan 293 = .ok (.lstore 16, 2) := by decide +kernel
theorem dL_isLoan_295 : decode cL_isLoan 295 = .ok (.iload_n 2, 1) := by decide +kernel
theorem dL_isLoan_296 : decode cL_isLoan 296 = .ok (.bipush 7, 2) := by decide +kernel
theorem dL_isLoan_298 : decode cL_isLoan 298 = .ok (.if_icmp .ne 15, 3) := by decide +kernel
theorem dL_isLoan_301 : decode cL_isLoan 301 = .ok (.lload 16, 2) := by decide +kernel
theorem dL_isLoan_303 : decode cL_isLoan 303 = .ok (.ldc2_w 131, 3) := by decide +kernel
theorem dL_isLoan_306 : decode cL_isLoan 306 = .ok (.lcmp, 1) := by decide +kernel
theorem dL_isLoan_307 : decode cL_isLoan 307 = .ok (.ifCond .ne 6, 3) := by decide +kernel
theorem dL_isLoan_31 : decode cL_isLoan 31 = .ok (.iadd, 1) := by decide +kernel
theorem dL_isLoan_310 : decode cL_isLoan 310 = .ok (.goto 111, 3) := by decide +kernel
theorem dL_isLoan_313 : decode cL_isLoan 313 = .ok (.aload 10, 2) := by decide +kernel
theorem dL_isLoan_315 : decode cL_isLoan 315 = .ok (.iload 14, 2) := by decide +kernel
theorem dL_isLoan_317 : decode cL_isLoan 317 = .ok (.iload 15, 2) := by decide +kernel
theorem dL_isLoan_319 : decode cL_isLoan 319 = .ok (.iastore, 1) := by decide +kernel
theorem dL_isLoan_32 : decode cL_isLoan 32 = .ok (.istore_n 3, 1) := by decide +kernel
theorem dL_isLoan_320 : decode cL_isLoan 320 = .ok (.lload 16, 2) := by decide +kernel
theorem dL_isLoan_322 : decode cL_isLoan 322 = .ok (.aload_n 0, 1) := by decide +kernel
theorem dL_isLoan_323 : decode cL_isLoan 323 = .ok (.invokevirtual 115, 3) := by decide +kernel
theorem dL_isLoan_326 : decode cL_isLoan 326 = .ok (.i2l, 1) := by decide +kernel
theorem dL_isLoan_327 : decode cL_isLoan 327 = .ok (.lcmp, 1) := by decide +kernel
theorem dL_isLoan_328 : decode cL_isLoan 328 = .ok (.ifCond .eq 5, 3) := by decide +kernel
theorem dL_isLoan_33 : decode cL_isLoan 33 = .ok (.aload_n 1, 1) := by decide +kernel
theorem dL_isLoan_333 : decode cL_isLoan 333 = .ok (.iload 13, 2) := by decide +kernel
theorem dL_isLoan_335 : decode cL_isLoan 335 = .ok (.iconst 2, 1) := by decide +kernel
theorem dL_isLoan_336 : decode cL_isLoan 336 = .ok (.if_icmp .ne 85, 3) := by decide +kernel
theorem dL_isLoan_339 : decode cL_isLoan 339 = .ok (.aload_n 1, 1) := by decide +kernel
theorem dL_isLoan_34 : decode cL_isLoan 34 = .ok (.iconst 3, 1) := by decide +kernel
theorem dL_isLoan_340 : decode cL_isLoan 340 = .ok (.iconst 4, 1) := by decide +kernel
theorem dL_isLoan_341 : decode cL_isLoan 341 = .ok (.invokestatic 13, 3) := by decide +kernel
theorem dL_isLoan_344 : decode cL_isLoan 344 = .ok (.ifCond .ne 8, 3) := by decide +kernel
theorem dL_isLoan_347 : decode cL_isLoan 347 = .ok (.lload 4, 2) := by decide +kernel
theorem dL_isLoan_349 : decode cL_isLoan 349 = .ok (.goto 19, 3) := by decide +kernel
theorem dL_isLoan_35 : decode cL_isLoan 35 = .ok (.invokestatic 13, 3) := by decide +kernel
theorem dL_isLoan_352 : decode cL_isLoan 352 = .ok (.aload_n 1, 1) := by decide +kernel
theorem dL_isLoan_353 : decode cL_isLoan 353 = .ok (.lload 4, 2) := by decide +kernel
theorem dL_isLoan_355 : decode cL_isLoan 355 = .ok (.ldc2_w 177, 3) := by decide +kernel
theorem dL_isLoan_358 : decode cL_isLoan 358 = .ok (.invokestatic 208, 3) := by decide +kernel
theorem dL_isLoan_361 : decode cL_isLoan 361 = .ok (.l2i, 1) := by decide +kernel
theorem dL_isLoan_362 : decode cL_isLoan 362 = .ok (.iconst 1, 1) := by decide +kernel
theorem dL_isLoan_363 : decode cL_isLoan 363 = .ok (.iadd, 1) := by decide +kernel
theorem dL_isLoan_364 : decode cL_isLoan 364 = .ok (.invokestatic 13, 3) := by decide +kernel
theorem dL_isLoan_367 : decode cL_isLoan 367 = .ok (.i2l, 1) := by decide +kernel
theorem dL_isLoan_368 : decode cL_isLoan 368 = .ok (.lstore 15, 2) := by decide +kernel
theorem dL_isLoan_370 : decode cL_isLoan 370 = .ok (.aload_n 0, 1) := by decide +kernel
theorem dL_isLoan_371 : decode cL_isLoan 371 = .ok (.bipush 8, 2) := by decide +kernel
theorem dL_isLoan_373 : decode cL_isLoan 373 = .ok (.lload 15, 2) := by decide +kernel
theorem dL_isLoan_375 : decode cL_isLoan 375 = .ok (.iload 14, 2) := by decide +kernel
theorem dL_isLoan_377 : decode cL_isLoan 377 = .ok (.iconst 0, 1) := by decide +kernel
theorem dL_isLoan_378 : decode cL_isLoan 378 = .ok (.invokestatic 161, 3) := by decide +kernel
theorem dL_isLoan_38 : decode cL_isLoan 38 = .ok (.ifCond .ne 16, 3) := by decide +kernel
theorem dL_isLoan_381 : decode cL_isLoan 381 = .ok (.lstore 17, 2) := by decide +kernel
theorem dL_isLoan_383 : decode cL_isLoan 383 = .ok (.iload_n 2, 1) := by decide +kernel
theorem dL_isLoan_384 : decode cL_isLoan 384 = .ok (.bipush 7, 2) := by decide +kernel
theorem dL_isLoan_386 : decode cL_isLoan 386 = .ok (.if_icmp .ne 15, 3) := by decide +kernel
theorem dL_isLoan_389 : decode cL_isLoan 389 = .ok (.lload 17, 2) := by decide +kernel
theorem dL_isLoan_391 : decode cL_isLoan 391 = .ok (.ldc2_w 131, 3) := by decide +kernel
theorem dL_isLoan_394 : decode cL_isLoan 394 = .ok (.lcmp, 1) := by decide +kernel
theorem dL_isLoan_395 : decode cL_isLoan 395 = .ok (.ifCond .ne 6, 3) := by decide +kernel
theorem dL_isLoan_398 : decode cL_isLoan 398 = .ok (.goto 23, 3) := by decide +kernel
theorem dL_isLoan_4 : decode cL_isLoan 4 = .ok (.istore_n 2, 1) := by decide +kernel
theorem dL_isLoan_401 : decode cL_isLoan 401 = .ok (.aload 11, 2) := by decide +kernel
theorem dL_isLoan_403 : decode cL_isLoan 403 = .ok (.iload 14, 2) := by decide +kernel
theorem dL_isLoan_405 : decode cL_isLoan 405 = .ok (.lload 15, 2) := by decide +kernel
theorem dL_isLoan_407 : decode cL_isLoan 407 = .ok (.lastore, 1) := by decide +kernel
theorem dL_isLoan_408 : decode cL_isLoan 408 = .ok (.lload 17, 2) := by decide +kernel
theorem dL_isLoan_41 : decode cL_isLoan 41 = .ok (.iconst 1, 1) := by decide +kernel
theorem dL_isLoan_410 : decode cL_isLoan 410 = .ok (.aload_n 0, 1) := by decide +kernel
theorem dL_isLoan_411 : decode cL_isLoan 411 = .ok (.invokevirtual 115, 3) := by decide +kernel
theorem dL_isLoan_414 : decode cL_isLoan 414 = .ok (.i2l, 1) := by decide +kernel
theorem dL_isLoan_415 : decode cL_isLoan 415 = .ok (.lcmp, 1) := by decide +kernel
theorem dL_isLoan_416 : decode cL_isLoan 416 = .ok (.ifCond .eq 5, 3) := by decide +kernel
theorem dL_isLoan_42 : decode cL_isLoan 42 = .ok (.aload_n 1, 1) := by decide +kernel
theorem dL_isLoan_421 : decode cL_isLoan 421 = .ok (.iinc 12 (-1), 3) := by decide +kernel
theorem dL_isLoan_424 : decode cL_isLoan 424 = .ok (.goto (-272), 3) := by decide +kernel
theorem dL_isLoan_427 : decode cL_isLoan 427 = .ok (.aload_n 0, 1) := by decide +kernel
theorem dL_isLoan_428 : decode cL_isLoan 428 = .ok (.lload 4, 2) := by decide +kernel
theorem dL_isLoan_43 : decode cL_isLoan 43 = .ok (.sipush 300, 3) := by decide +kernel
theorem dL_isLoan_430 : decode cL_isLoan 430 = .ok (.iload 6, 2) := by decide +kernel
theorem dL_isLoan_432 : decode cL_isLoan 432 = .ok (.iload_n 3, 1) := by decide +kernel
theorem dL_isLoan_433 : decode cL_isLoan 433 = .ok (.aload 9, 2) := by decide +kernel
theorem dL_isLoan_435 : decode cL_isLoan 435 = .ok (.aload 10, 2) := by decide +kernel
theorem dL_isLoan_437 : decode cL_isLoan 437 = .ok (.aload 11, 2) := by decide +kernel
theorem dL_isLoan_439 : decode cL_isLoan 439 = .ok (.lload 7, 2) := by decide +kernel
theorem dL_isLoan_441 : decode cL_isLoan 441 = .ok (.invokestatic 211, 3) := by decide +kernel
theorem dL_isLoan_444 : decode cL_isLoan 444 = .ok (.ireturn, 1) := by decide +kernel
theorem dL_isLoan_46 : decode cL_isLoan 46 = .ok (.invokestatic 13, 3) := by decide +kernel
theorem dL_isLoan_49 : decode cL_isLoan 49 = .ok (.iadd, 1) := by decide +kernel
theorem dL_isLoan_5 : decode cL_isLoan 5 = .ok (.aload_n 1, 1) := by decide +kernel
theorem dL_isLoan_50 : decode cL_isLoan 50 = .ok (.i2l, 1) := by decide +kernel
theorem dL_isLoan_51 : decode cL_isLoan 51 = .ok (.goto 12, 3) := by decide +kernel
theorem dL_isLoan_54 : decode cL_isLoan 54 = .ok (.iconst 1, 1) := by decide +kernel
theorem dL_isLoan_55 : decode cL_isLoan 55 = .ok (.aload_n 1, 1) := by decide +kernel
theorem dL_isLoan_56 : decode cL_isLoan 56 = .ok (.ldc 207, 2) := by decide +kernel
theorem dL_isLoan_58 : decode cL_isLoan 58 = .ok (.invokestatic 13, 3) := by decide +kernel
theorem dL_isLoan_6 : decode cL_isLoan 6 = .ok (.iconst 4, 1) := by decide +kernel
theorem dL_isLoan_61 : decode cL_isLoan 61 = .ok (.iadd, 1) := by decide +kernel
theorem dL_isLoan_62 : decode cL_isLoan 62 = .ok (.i2l, 1) := by decide +kernel
theorem dL_isLoan_63 : decode cL_isLoan 63 = .ok (.lstore 4, 2) := by decide +kernel
theorem dL_isLoan_65 : decode cL_isLoan 65 = .ok (.aload_n 1, 1) := by decide +kernel
theorem dL_isLoan_66 : decode cL_isLoan 66 = .ok (.invokestatic 173, 3) := by decide +kernel
theorem dL_isLoan_69 : decode cL_isLoan 69 = .ok (.istore 6, 2) := by decide +kernel
theorem dL_isLoan_7 : decode cL_isLoan 7 = .ok (.invokestatic 13, 3) := by decide +kernel
theorem dL_isLoan_71 : decode cL_isLoan 71 = .ok (.iload_n 2, 1) := by decide +kernel
theorem dL_isLoan_72 : decode cL_isLoan 72 = .ok (.bipush 7, 2) := by decide +kernel
theorem dL_isLoan_74 : decode cL_isLoan 74 = .ok (.if_icmp .ne 20, 3) := by decide +kernel
theorem dL_isLoan_77 : decode cL_isLoan 77 = .ok (.iconst 1, 1) := by decide +kernel
theorem dL_isLoan_78 : decode cL_isLoan 78 = .ok (.aload_n 1, 1) := by decide +kernel
theorem dL_isLoan_79 : decode cL_isLoan 79 = .ok (.ldc 152, 2) := by decide +kernel
theorem dL_isLoan_81 : decode cL_isLoan 81 = .ok (.invokestatic 13, 3) := by decide +kernel
theorem dL_isLoan_84 : decode cL_isLoan 84 = .ok (.iadd, 1) := by decide +kernel
theorem dL_isLoan_85 : decode cL_isLoan 85 = .ok (.i2l, 1) := by decide +kernel
theorem dL_isLoan_86 : decode cL_isLoan 86 = .ok (.iload_n 3, 1) := by decide +kernel
theorem dL_isLoan_87 : decode cL_isLoan 87 = .ok (.i2l, 1) := by decide +kernel
theorem dL_isLoan_88 : decode cL_isLoan 88 = .ok (.lmul, 1) := by decide +kernel
theorem dL_isLoan_89 : decode cL_isLoan 89 = .ok (.lstore 4, 2) := by decide +kernel
theorem dL_isLoan_91 : decode cL_isLoan 91 = .ok (.iconst 0, 1) := by decide +kernel
theorem dL_isLoan_92 : decode cL_isLoan 92 = .ok (.istore 6, 2) := by decide +kernel
theorem dL_isLoan_94 : decode cL_isLoan 94 = .ok (.aload_n 0, 1) := by decide +kernel
theorem dL_isLoan_95 : decode cL_isLoan 95 = .ok (.lload 4, 2) := by decide +kernel
theorem dL_isLoan_97 : decode cL_isLoan 97 = .ok (.iload 6, 2) := by decide +kernel
theorem dL_isLoan_99 : decode cL_isLoan 99 = .ok (.iload_n 3, 1) := by decide +kernel
set_option maxRecDepth 20000 in
theorem gpL_isLoan_L_asks_wsL_asks_r1 : GoodIn wsL_isLoan wsL_asks_r1 := goodIn_r _ [223, 224, 225, 226, 227, 6, 228, 229, 230, 15, 231, 232, 233, 234, 235, 17, 36, 37, 38, 39, 40, 41, 42, 43] (by decide +kernel) (by decide +kernel)
theorem gpL_isLoan_L_asks_wsL_asks_r2 : GoodIn wsL_isLoan wsL_asks_r2 := goodIn_r _ [236, 201, 202, 155, 203, 204, 205, 10, 206, 184, 185, 186, 187, 188, 189, 190, 191, 192, 193, 194, 195, 196, 197, 198] (by decide +kernel) (by decide +kernel)
theorem gpL_isLoan_L_asks_wsL_asks_r3 : GoodIn wsL_isLoan wsL_asks_r3 := goodIn_r _ [199, 158, 237, 238, 239, 240, 241, 242, 32, 243, 244, 245, 246, 247, 248, 249, 250, 251, 252, 253, 254, 255, 256, 257] (by decide +kernel) (by decide +kernel)
theorem gpL_isLoan_L_asks_wsL_asks_r4 : GoodIn wsL_isLoan wsL_asks_r4 := goodIn_r _ [258, 259, 260, 261, 262, 263, 264, 265, 266, 267, 268, 269, 270, 44, 45, 46, 47, 271, 272, 273, 274, 275, 140, 141] (by decide +kernel) (by decide +kernel)
theorem gpL_isLoan_L_asks_wsL_asks_r5 : GoodIn wsL_isLoan wsL_asks_r5 := goodIn_r _ [276, 277, 278, 279, 280, 281, 282, 283, 284, 285, 286, 287, 72, 73, 74, 75, 76, 77, 78, 79, 80, 81, 82, 83] (by decide +kernel) (by decide +kernel)
theorem gpL_isLoan_L_asks_wsL_asks_r6 : GoodIn wsL_isLoan wsL_asks_r6 := goodIn_r _ [84, 85, 86, 87, 88, 89, 90, 91, 92, 93, 94, 95, 96, 97, 98, 99, 100, 101, 102, 103, 104, 105, 288, 107] (by decide +kernel) (by decide +kernel)
theorem gpL_isLoan_L_asks_wsL_asks_r7 : GoodIn wsL_isLoan wsL_asks_r7 := goodIn_r _ [108, 109, 110, 111, 112, 113, 114, 115, 116, 117, 118, 119, 120, 121, 122, 123, 124, 125, 126, 127, 5, 128, 129, 130] (by decide +kernel) (by decide +kernel)
theorem gpL_isLoan_L_asks_wsL_asks_r8 : GoodIn wsL_isLoan wsL_asks_r8 := goodIn_r _ [131, 132, 133, 134, 135, 136, 137, 138, 139, 289, 143, 144, 145, 146, 147, 148, 149, 150, 151, 290, 291, 153, 154, 156] (by decide +kernel) (by decide +kernel)
theorem gpL_isLoan_L_asks_wsL_asks_r9 : GoodIn wsL_isLoan wsL_asks_r9 := goodIn_r _ [157, 159, 160, 161, 162, 163, 164, 165, 166, 167, 168, 169, 170, 171, 172, 173, 174, 175, 176, 177, 178, 179, 180, 181] (by decide +kernel) (by decide +kernel)
theorem gpL_isLoan_L_asks_wsL_asks_r10 : GoodIn wsL_isLoan wsL_asks_r10 := goodIn_r _ [182, 183, 292, 293, 294, 295, 296, 297, 298, 299, 300, 301, 302, 303, 304, 305, 306, 307, 308, 309, 310, 311, 312, 313] (by decide +kernel) (by decide +kernel)
theorem gpL_isLoan_L_asks_wsL_asks_r11 : GoodIn wsL_isLoan wsL_asks_r11 := goodIn_r _ [314, 28, 29, 30, 31, 33, 34, 35, 48, 49, 50, 51, 52, 53, 54, 55, 56, 57, 58, 59, 60, 61, 62, 63] (by decide +kernel) (by decide +kernel)
theorem gpL_isLoan_L_asks_wsL_asks_r12 : GoodIn wsL_isLoan wsL_asks_r12 := goodIn_r _ [64, 65, 66, 67, 68, 69, 70, 71, 106, 142, 152, 200, 207, 208, 209, 210, 211, 9, 11, 212, 213, 214, 215, 216] (by decide +kernel) (by decide +kernel)
theorem gpL_isLoan_L_asks_wsL_asks_r13 : GoodIn wsL_isLoan wsL_asks_r13 := goodIn_r _ [217, 218, 219, 315, 316, 317, 318, 319, 320, 321, 322, 323, 324, 325, 326, 327, 328, 329, 330, 331, 332, 333, 334, 335] (by decide +kernel) (by decide +kernel)
theorem gpL_isLoan_L_asks_wsL_asks_r14 : GoodIn wsL_isLoan wsL_asks_r14 := goodIn_r _ [336, 337, 338, 339, 340, 341, 342, 343, 344, 345, 346, 347, 348, 349, 350, 351, 352, 353, 354, 355, 356, 357, 358, 359] (by decide +kernel) (by decide +kernel)
theorem gpL_isLoan_L_asks_wsL_asks_r15 : GoodIn wsL_isLoan wsL_asks_r15 := goodIn_r _ [360, 361, 362, 363, 364, 365, 366, 367, 368, 369, 370, 371, 372, 373, 374, 375, 376, 377, 378, 379, 380, 381, 382, 383] (by decide +kernel) (by decide +kernel)
theorem gpL_isLoan_L_asks_wsL_asks_r16 : GoodIn wsL_isLoan wsL_asks_r16 := goodIn_r _ [384, 385, 386, 387, 388, 389, 390, 391, 392, 393, 394, 395, 396, 397, 398, 399, 400, 401, 402, 403, 404, 405, 406, 407] (by decide +kernel) (by decide +kernel)
theorem gpL_isLoan_L_asks_wsL_asks_r17 : GoodIn wsL_isLoan wsL_asks_r17 := goodIn_r _ [408, 409, 410, 411, 412, 413, 414, 415, 416, 417, 418, 419, 420, 421, 422, 423, 424, 425, 426, 427, 428, 429, 430, 431] (by decide +kernel) (by decide +kernel)
theorem gpL_isLoan_L_asks_wsL_asks_r18 : GoodIn wsL_isLoan wsL_asks_r18 := goodIn_r _ [432, 433, 434, 435, 436, 437, 438, 439, 440, 441, 442, 443, 444, 445, 446, 447, 448, 449, 450, 451, 452, 453, 454, 455] (by decide +kernel) (by decide +kernel)
theorem gpL_isLoan_L_asks_wsL_asks_r19 : GoodIn wsL_isLoan wsL_asks_r19 := goodIn_r _ [456, 457, 458, 459, 460, 461, 462, 463, 464, 465, 466, 467, 468, 469, 470, 471, 472, 473, 474, 475, 476, 477, 478, 479] (by decide +kernel) (by decide +kernel)
theorem gpL_isLoan_L_asks_wsL_asks_r20 : GoodIn wsL_isLoan wsL_asks_r20 := goodIn_r _ [480, 481, 482, 483, 484, 485, 486, 487, 488, 489, 490, 491, 492, 493, 494, 495, 496, 497, 498, 499, 500, 501, 502, 503] (by decide +kernel) (by decide +kernel)
theorem gpL_isLoan_L_asks_wsL_asks_r21 : GoodIn wsL_isLoan wsL_asks_r21 := goodIn_r _ [504, 505, 506, 507, 508, 509, 510, 511, 512, 513, 514, 515, 516, 517, 518, 519, 520, 521, 522, 523, 524, 525, 526, 527] (by decide +kernel) (by decide +kernel)
theorem gpL_isLoan_L_asks_wsL_asks_r22 : GoodIn wsL_isLoan wsL_asks_r22 := goodIn_r _ [528, 529, 530, 531, 532, 533, 534, 535, 536, 537, 538, 539, 540, 541, 542, 543, 544, 545, 546, 547, 548, 549, 550, 551] (by decide +kernel) (by decide +kernel)
theorem gpL_isLoan_L_asks_wsL_asks_r23 : GoodIn wsL_isLoan wsL_asks_r23 := goodIn_r _ [18, 552, 553, 554, 555, 556, 557, 558, 559, 560, 561, 562, 563, 564, 565, 566, 567, 568, 569, 570, 571, 572, 573, 574] (by decide +kernel) (by decide +kernel)
theorem gpL_isLoan_L_asks_wsL_asks_r24 : GoodIn wsL_isLoan wsL_asks_r24 := goodIn_r _ [575] (by decide +kernel) (by decide +kernel)
theorem gpL_isLoan_L_asks_wsX90 : GoodIn wsL_isLoan wsX90 := goodIn_r _ [646, 647, 648, 649, 650, 651, 652, 653] (by decide +kernel) (by decide +kernel)
theorem gpL_isLoan_L_asks_wsX40 : GoodIn wsL_isLoan wsX40 := goodIn_r _ [654] (by decide +kernel) (by decide +kernel)
theorem gpL_isLoan_L_asks_wsX50 : GoodIn wsL_isLoan wsX50 := goodIn_r _ [672, 673, 674] (by decide +kernel) (by decide +kernel)
theorem gpL_isLoan_L_asks_wsX10 : GoodIn wsL_isLoan wsX10 := goodIn_r _ [663, 664, 665, 666, 667, 668] (by decide +kernel) (by decide +kernel)
theorem gpL_isLoan_L_asks_wsX80 : GoodIn wsL_isLoan wsX80 := goodIn_r _ [669, 670, 671] (by decide +kernel) (by decide +kernel)
theorem gpL_isLoan_L_asks_wsX30 : GoodIn wsL_isLoan wsX30 := goodIn_r _ [655, 656, 657, 658, 659, 660, 661, 662] (by decide +kernel) (by decide +kernel)
theorem gpL_isLoan_L_asks_wsX00 : GoodIn wsL_isLoan wsX00 := goodIn_r _ [675] (by decide +kernel) (by decide +kernel)
theorem gpL_isLoan_L_asks_wsX20 : GoodIn wsL_isLoan wsX20 := goodIn_r _ [676, 677, 678, 679] (by decide +kernel) (by decide +kernel)
theorem gpL_isLoan_L_asks_wsX60 : GoodIn wsL_isLoan wsX60 := goodIn_r _ [680, 681] (by decide +kernel) (by decide +kernel)
theorem gpL_isLoan_L_asks_wsX70 : GoodIn wsL_isLoan wsX70 := goodIn_r _ [682, 683, 684] (by decide +kernel) (by decide +kernel)
theorem ggL_isLoan_L_asks : GoodIn wsL_isLoan wsL_asks := goodIn_ca (goodIn_ca (goodIn_ca (goodIn_cons (goodIn_r [_] [222] (by decide +kernel) (by decide +kernel)) (goodIn_app (goodIn_app (goodIn_app (goodIn_app (goodIn_app (goodIn_app (goodIn_app (goodIn_app (goodIn_app (goodIn_app (goodIn_app gpL_isLoan_L_asks_wsL_asks_r1 (goodIn_app gpL_isLoan_L_asks_wsL_asks_r2 (goodIn_app gpL_isLoan_L_asks_wsL_asks_r3 (goodIn_app gpL_isLoan_L_asks_wsL_asks_r4 (goodIn_app gpL_isLoan_L_asks_wsL_asks_r5 (goodIn_app gpL_isLoan_L_asks_wsL_asks_r6 (goodIn_app gpL_isLoan_L_asks_wsL_asks_r7 (goodIn_app gpL_isLoan_L_asks_wsL_asks_r8 (goodIn_app gpL_isLoan_L_asks_wsL_asks_r9 (goodIn_app gpL_isLoan_L_asks_wsL_asks_r10 (goodIn_app gpL_isLoan_L_asks_wsL_asks_r11 (goodIn_app gpL_isLoan_L_asks_wsL_asks_r12 (goodIn_app gpL_isLoan_L_asks_wsL_asks_r13 (goodIn_app gpL_isLoan_L_asks_wsL_asks_r14 (goodIn_app gpL_isLoan_L_asks_wsL_asks_r15 (goodIn_app gpL_isLoan_L_asks_wsL_asks_r16 (goodIn_app gpL_isLoan_L_asks_wsL_asks_r17 (goodIn_app gpL_isLoan_L_asks_wsL_asks_r18 (goodIn_app gpL_isLoan_L_asks_wsL_asks_r19 (goodIn_app gpL_isLoan_L_asks_wsL_asks_r20 (goodIn_app gpL_isLoan_L_asks_wsL_asks_r21 (goodIn_app gpL_isLoan_L_asks_wsL_asks_r22 (goodIn_app gpL_isLoan_L_asks_wsL_asks_r23 (gpL_isLoan_L_asks_wsL_asks_r24)))))))))))))))))))))))) gpL_isLoan_L_asks_wsX90) gpL_isLoan_L_asks_wsX40) gpL_isLoan_L_asks_wsX50) gpL_isLoan_L_asks_wsX10) gpL_isLoan_L_asks_wsX80) gpL_isLoan_L_asks_wsX30) gpL_isLoan_L_asks_wsX00) gpL_isLoan_L_asks_wsX20) gpL_isLoan_L_asks_wsX60) gpL_isLoan_L_asks_wsX70)) (goodIn_sub (fun _ h => List.mem_cons_of_mem _ (List.mem_append_left _ (List.mem_append_left _ (List.mem_append_right _ h)))) (by decide +kernel))) (goodIn_sub (fun _ h => List.mem_cons_of_mem _ (List.mem_append_left _ (List.mem_append_right _ h))) (by decide +kernel))) (goodIn_sub (fun _ h => List.mem_cons_of_mem _ (List.mem_append_right _ h)) (by decide +kernel))
set_option maxRecDepth 20000 in
theorem gL_isLoan_L_asks : GoodIn wsL_isLoan (va_wsS RL 161 yL_asks wsL_asks) := goodIn_app (goodIn_of _ (by decide +kernel)) ggL_isLoan_L_asks
set_option maxRecDepth 20000 in
theorem ggL_isLoan_L_draw : GoodIn wsL_isLoan wsL_draw := goodIn_r _ [22, 23, 24] (by decide +kernel) (by decide +kernel)
set_option maxRecDepth 20000 in
theorem gL_isLoan_L_draw : GoodIn wsL_isLoan (va_wsS RL 13 yL_draw wsL_draw) := goodIn_app (goodIn_of _ (by decide +kernel)) ggL_isLoan_L_draw
set_option maxRecDepth 20000 in
theorem gpL_isLoan_L_isTable_wsL_isTable_r1 : GoodIn wsL_isLoan wsL_isTable_r1 := goodIn_r _ [5, 7, 8, 9, 10, 11, 226, 227, 12, 13, 14, 15, 16, 17, 18, 579, 580, 21, 581, 582, 583, 584, 585, 586] (by decide +kernel) (by decide +kernel)
theorem gpL_isLoan_L_isTable_wsL_isTable_r2 : GoodIn wsL_isLoan wsL_isTable_r2 := goodIn_r _ [6, 587, 588, 589, 590, 591, 592, 593, 594, 595, 596, 597, 598, 599, 600, 601, 602, 243, 263, 264, 265, 247, 266, 249] (by decide +kernel) (by decide +kernel)
theorem gpL_isLoan_L_isTable_wsL_isTable_r3 : GoodIn wsL_isLoan wsL_isTable_r3 := goodIn_r _ [603, 604, 605, 606, 607, 608, 120, 609, 237, 238, 239, 240, 241, 242, 32, 36, 37, 38, 39, 40, 41, 42, 43, 244] (by decide +kernel) (by decide +kernel)
theorem gpL_isLoan_L_isTable_wsL_isTable_r4 : GoodIn wsL_isLoan wsL_isTable_r4 := goodIn_r _ [245, 246, 248, 250, 251, 192, 193, 194, 195, 252, 253, 254, 255, 256, 257, 258, 259, 260, 261, 262, 571, 572, 573, 574] (by decide +kernel) (by decide +kernel)
theorem gpL_isLoan_L_isTable_wsL_isTable_r5 : GoodIn wsL_isLoan wsL_isTable_r5 := goodIn_r _ [44, 45, 46, 47, 575, 311, 312, 313, 276, 278, 279, 280, 281, 282, 283, 284, 285, 286, 287, 72, 73, 74, 75, 76] (by decide +kernel) (by decide +kernel)
theorem gpL_isLoan_L_isTable_wsL_isTable_r6 : GoodIn wsL_isLoan wsL_isTable_r6 := goodIn_r _ [77, 78, 79, 80, 81, 82, 83, 84, 85, 86, 87, 88, 89, 90, 91, 92, 93, 94, 95, 96, 97, 98, 99, 100] (by decide +kernel) (by decide +kernel)
theorem gpL_isLoan_L_isTable_wsL_isTable_r7 : GoodIn wsL_isLoan wsL_isTable_r7 := goodIn_r _ [101, 102, 103, 104, 105, 288, 107, 108, 109, 110, 111, 112, 113, 114, 115, 116, 117, 118, 119, 121, 122, 123, 124, 125] (by decide +kernel) (by decide +kernel)
theorem gpL_isLoan_L_isTable_wsL_isTable_r8 : GoodIn wsL_isLoan wsL_isTable_r8 := goodIn_r _ [126, 127, 128, 129, 130, 131, 132, 133, 134, 135, 136, 137, 138, 139, 140, 141, 314, 160, 161, 162, 350, 351, 352, 353] (by decide +kernel) (by decide +kernel)
theorem gpL_isLoan_L_isTable_wsL_isTable_r9 : GoodIn wsL_isLoan wsL_isTable_r9 := goodIn_r _ [234, 35, 337, 320, 321, 322, 323, 319, 300, 354, 355, 356, 357, 358, 216, 217, 218, 51, 219, 64, 567, 568, 569, 570] (by decide +kernel) (by decide +kernel)
theorem gpL_isLoan_L_isTable_wsL_isTable_r10 : GoodIn wsL_isLoan wsL_isTable_r10 := goodIn_r _ [610, 611, 612, 613, 364, 365, 366, 367, 62, 359, 360, 361, 362, 363, 220, 221, 222, 223, 224, 225, 228, 229, 230, 231] (by decide +kernel) (by decide +kernel)
theorem gpL_isLoan_L_isTable_wsL_isTable_r11 : GoodIn wsL_isLoan wsL_isTable_r11 := goodIn_r _ [232, 233, 235, 236, 201, 202, 155, 203, 204, 205, 206, 184, 185, 186, 187, 188, 189, 190, 191, 196, 197, 198, 199, 158] (by decide +kernel) (by decide +kernel)
theorem gpL_isLoan_L_isTable_wsL_isTable_r12 : GoodIn wsL_isLoan wsL_isTable_r12 := goodIn_r _ [267, 268, 269, 270, 271, 272, 273, 274, 275, 277, 289, 143, 144, 145, 146, 147, 148, 149, 150, 151, 290, 291, 153, 154] (by decide +kernel) (by decide +kernel)
theorem gpL_isLoan_L_isTable_wsL_isTable_r13 : GoodIn wsL_isLoan wsL_isTable_r13 := goodIn_r _ [156, 157, 159, 163, 164, 165, 166, 167, 168, 169, 170, 171, 172, 173, 174, 175, 176, 177, 178, 179, 180, 181, 182, 183] (by decide +kernel) (by decide +kernel)
theorem gpL_isLoan_L_isTable_wsL_isTable_r14 : GoodIn wsL_isLoan wsL_isTable_r14 := goodIn_r _ [292, 293, 294, 295, 296, 297, 298, 299, 301, 302, 303, 304, 305, 306, 307, 308, 309, 310, 28, 29, 30, 31, 33, 34] (by decide +kernel) (by decide +kernel)
theorem gpL_isLoan_L_isTable_wsL_isTable_r15 : GoodIn wsL_isLoan wsL_isTable_r15 := goodIn_r _ [48, 49, 50, 52, 53, 54, 55, 56, 57, 58, 59, 60, 61, 63, 65, 66, 67, 68, 69, 70, 71, 106, 142, 152] (by decide +kernel) (by decide +kernel)
theorem gpL_isLoan_L_isTable_wsL_isTable_r16 : GoodIn wsL_isLoan wsL_isTable_r16 := goodIn_r _ [200, 207, 208, 209, 210, 211, 212, 213, 214, 215, 315, 316, 317, 318, 324, 325, 326, 327, 328, 329, 330, 331, 332, 333] (by decide +kernel) (by decide +kernel)
theorem gpL_isLoan_L_isTable_wsL_isTable_r17 : GoodIn wsL_isLoan wsL_isTable_r17 := goodIn_r _ [334, 335, 336, 338, 339, 340, 341, 342, 343, 344, 345, 346, 347, 348, 349, 368, 369, 370, 371, 372, 373, 374, 375, 376] (by decide +kernel) (by decide +kernel)
theorem gpL_isLoan_L_isTable_wsL_isTable_r18 : GoodIn wsL_isLoan wsL_isTable_r18 := goodIn_r _ [377, 378, 379, 380, 381, 382, 383, 384, 385, 386, 387, 388, 389, 390, 391, 392, 393, 394, 395, 396, 397, 398, 399, 400] (by decide +kernel) (by decide +kernel)
theorem gpL_isLoan_L_isTable_wsL_isTable_r19 : GoodIn wsL_isLoan wsL_isTable_r19 := goodIn_r _ [401, 402, 403, 404, 405, 406, 407, 408, 409, 410, 411, 412, 413, 414, 415, 416, 417, 418, 419, 420, 421, 422, 423, 424] (by decide +kernel) (by decide +kernel)
theorem gpL_isLoan_L_isTable_wsL_isTable_r20 : GoodIn wsL_isLoan wsL_isTable_r20 := goodIn_r _ [425, 426, 427, 428, 429, 430, 431, 432, 433, 434, 435, 436, 437, 438, 439, 440, 441, 442, 443, 444, 445, 446, 447, 448] (by decide +kernel) (by decide +kernel)
theorem gpL_isLoan_L_isTable_wsL_isTable_r21 : GoodIn wsL_isLoan wsL_isTable_r21 := goodIn_r _ [449, 450, 451, 452, 453, 454, 455, 456, 457, 458, 459, 460, 461, 462, 463, 464, 465, 466, 467, 468, 469, 470, 471, 472] (by decide +kernel) (by decide +kernel)
theorem gpL_isLoan_L_isTable_wsL_isTable_r22 : GoodIn wsL_isLoan wsL_isTable_r22 := goodIn_r _ [473, 474, 475, 476, 477, 478, 479, 480, 481, 482, 483, 484, 485, 486, 487, 488, 489, 490, 491, 492, 493, 494, 495, 496] (by decide +kernel) (by decide +kernel)
theorem gpL_isLoan_L_isTable_wsL_isTable_r23 : GoodIn wsL_isLoan wsL_isTable_r23 := goodIn_r _ [497, 498, 499, 500, 501, 502, 503, 504, 505, 506, 507, 508, 509, 510, 511, 512, 513, 514, 515, 516, 517, 518, 519, 520] (by decide +kernel) (by decide +kernel)
theorem gpL_isLoan_L_isTable_wsL_isTable_r24 : GoodIn wsL_isLoan wsL_isTable_r24 := goodIn_r _ [521, 522, 523, 524, 525, 526, 527, 528, 529, 530, 531, 532, 533, 534, 535, 536, 537, 538, 539, 540, 541, 542, 543, 544] (by decide +kernel) (by decide +kernel)
theorem gpL_isLoan_L_isTable_wsL_isTable_r25 : GoodIn wsL_isLoan wsL_isTable_r25 := goodIn_r _ [545, 546, 547, 548, 549, 550, 551, 552, 553, 554, 555, 556, 557, 558, 559, 560, 561, 562, 563, 564, 565, 566, 614, 615] (by decide +kernel) (by decide +kernel)
theorem gpL_isLoan_L_isTable_wsL_isTable_r26 : GoodIn wsL_isLoan wsL_isTable_r26 := goodIn_r _ [616, 617, 618, 619, 620, 621, 622, 623, 624, 625, 626, 627, 628, 629, 630, 631, 632, 633, 634, 635, 636, 637, 638, 639] (by decide +kernel) (by decide +kernel)
theorem gpL_isLoan_L_isTable_wsL_isTable_r27 : GoodIn wsL_isLoan wsL_isTable_r27 := goodIn_r _ [640, 641, 642, 643, 644, 645] (by decide +kernel) (by decide +kernel)
theorem gpL_isLoan_L_isTable_wsX90 : GoodIn wsL_isLoan wsX90 := goodIn_r _ [646, 647, 648, 649, 650, 651, 652, 653] (by decide +kernel) (by decide +kernel)
theorem gpL_isLoan_L_isTable_wsX40 : GoodIn wsL_isLoan wsX40 := goodIn_r _ [654] (by decide +kernel) (by decide +kernel)
theorem gpL_isLoan_L_isTable_wsX50 : GoodIn wsL_isLoan wsX50 := goodIn_r _ [672, 673, 674] (by decide +kernel) (by decide +kernel)
theorem gpL_isLoan_L_isTable_wsX10 : GoodIn wsL_isLoan wsX10 := goodIn_r _ [663, 664, 665, 666, 667, 668] (by decide +kernel) (by decide +kernel)
theorem gpL_isLoan_L_isTable_wsX80 : GoodIn wsL_isLoan wsX80 := goodIn_r _ [669, 670, 671] (by decide +kernel) (by decide +kernel)
theorem gpL_isLoan_L_isTable_wsX30 : GoodIn wsL_isLoan wsX30 := goodIn_r _ [655, 656, 657, 658, 659, 660, 661, 662] (by decide +kernel) (by decide +kernel)
theorem gpL_isLoan_L_isTable_wsX00 : GoodIn wsL_isLoan wsX00 := goodIn_r _ [675] (by decide +kernel) (by decide +kernel)
theorem gpL_isLoan_L_isTable_wsX20 : GoodIn wsL_isLoan wsX20 := goodIn_r _ [676, 677, 678, 679] (by decide +kernel) (by decide +kernel)
theorem gpL_isLoan_L_isTable_wsX60 : GoodIn wsL_isLoan wsX60 := goodIn_r _ [680, 681] (by decide +kernel) (by decide +kernel)
theorem gpL_isLoan_L_isTable_wsX70 : GoodIn wsL_isLoan wsX70 := goodIn_r _ [682, 683, 684] (by decide +kernel) (by decide +kernel)
theorem ggL_isLoan_L_isTable : GoodIn wsL_isLoan wsL_isTable := goodIn_ca (goodIn_ca (goodIn_ca (goodIn_cons (goodIn_r [_] [578] (by decide +kernel) (by decide +kernel)) (goodIn_app (goodIn_app (goodIn_app (goodIn_app (goodIn_app (goodIn_app (goodIn_app (goodIn_app (goodIn_app (goodIn_app (goodIn_app gpL_isLoan_L_isTable_wsL_isTable_r1 (goodIn_app gpL_isLoan_L_isTable_wsL_isTable_r2 (goodIn_app gpL_isLoan_L_isTable_wsL_isTable_r3 (goodIn_app gpL_isLoan_L_isTable_wsL_isTable_r4 (goodIn_app gpL_isLoan_L_isTable_wsL_isTable_r5 (goodIn_app gpL_isLoan_L_isTable_wsL_isTable_r6 (goodIn_app gpL_isLoan_L_isTable_wsL_isTable_r7 (goodIn_app gpL_isLoan_L_isTable_wsL_isTable_r8 (goodIn_app gpL_isLoan_L_isTable_wsL_isTable_r9 (goodIn_app gpL_isLoan_L_isTable_wsL_isTable_r10 (goodIn_app gpL_isLoan_L_isTable_wsL_isTable_r11 (goodIn_app gpL_isLoan_L_isTable_wsL_isTable_r12 (goodIn_app gpL_isLoan_L_isTable_wsL_isTable_r13 (goodIn_app gpL_isLoan_L_isTable_wsL_isTable_r14 (goodIn_app gpL_isLoan_L_isTable_wsL_isTable_r15 (goodIn_app gpL_isLoan_L_isTable_wsL_isTable_r16 (goodIn_app gpL_isLoan_L_isTable_wsL_isTable_r17 (goodIn_app gpL_isLoan_L_isTable_wsL_isTable_r18 (goodIn_app gpL_isLoan_L_isTable_wsL_isTable_r19 (goodIn_app gpL_isLoan_L_isTable_wsL_isTable_r20 (goodIn_app gpL_isLoan_L_isTable_wsL_isTable_r21 (goodIn_app gpL_isLoan_L_isTable_wsL_isTable_r22 (goodIn_app gpL_isLoan_L_isTable_wsL_isTable_r23 (goodIn_app gpL_isLoan_L_isTable_wsL_isTable_r24 (goodIn_app gpL_isLoan_L_isTable_wsL_isTable_r25 (goodIn_app gpL_isLoan_L_isTable_wsL_isTable_r26 (gpL_isLoan_L_isTable_wsL_isTable_r27))))))))))))))))))))))))))) gpL_isLoan_L_isTable_wsX90) gpL_isLoan_L_isTable_wsX40) gpL_isLoan_L_isTable_wsX50) gpL_isLoan_L_isTable_wsX10) gpL_isLoan_L_isTable_wsX80) gpL_isLoan_L_isTable_wsX30) gpL_isLoan_L_isTable_wsX00) gpL_isLoan_L_isTable_wsX20) gpL_isLoan_L_isTable_wsX60) gpL_isLoan_L_isTable_wsX70)) (goodIn_sub (fun _ h => List.mem_cons_of_mem _ (List.mem_append_left _ (List.mem_append_left _ (List.mem_append_right _ h)))) (by decide +kernel))) (goodIn_sub (fun _ h => List.mem_cons_of_mem _ (List.mem_append_left _ (List.mem_append_right _ h))) (by decide +kernel))) (goodIn_sub (fun _ h => List.mem_cons_of_mem _ (List.mem_append_right _ h)) (by decide +kernel))
set_option maxRecDepth 20000 in
theorem gL_isLoan_L_isTable : GoodIn wsL_isLoan (va_wsS RL 211 yL_isTable wsL_isTable) := goodIn_app (goodIn_of _ (by decide +kernel)) ggL_isLoan_L_isTable
set_option maxRecDepth 20000 in
theorem ggL_isLoan_L_rate : GoodIn wsL_isLoan wsL_rate := goodIn_r _ [27, 19, 20, 21, 22, 23, 24] (by decide +kernel) (by decide +kernel)
set_option maxRecDepth 20000 in
theorem gL_isLoan_L_rate : GoodIn wsL_isLoan (va_wsS RL 173 yL_rate wsL_rate) := goodIn_app (goodIn_of _ (by decide +kernel)) ggL_isLoan_L_rate
set_option maxRecDepth 20000 in
theorem gpL_isLoan_X9_lend_wsX9_lend_r1 : GoodIn wsL_isLoan wsX9_lend_r1 := goodIn_r _ [32, 33, 34, 17, 35, 36, 37, 15, 38, 39, 40, 41, 42, 43, 44, 45, 46, 47, 48, 49, 50, 51, 52, 53] (by decide +kernel) (by decide +kernel)
theorem gpL_isLoan_X9_lend_wsX9_lend_r2 : GoodIn wsL_isLoan wsX9_lend_r2 := goodIn_r _ [54, 55, 56, 57, 58, 59, 60, 61, 62, 63, 64, 65, 66, 67, 68, 69, 70, 71, 72, 73, 74, 75, 76, 77] (by decide +kernel) (by decide +kernel)
theorem gpL_isLoan_X9_lend_wsX9_lend_r3 : GoodIn wsL_isLoan wsX9_lend_r3 := goodIn_r _ [78, 79, 80, 81, 82, 10, 83, 84, 85, 86, 87, 88, 89, 90, 91, 92, 93, 94, 95, 96, 97, 98, 99, 100] (by decide +kernel) (by decide +kernel)
theorem gpL_isLoan_X9_lend_wsX9_lend_r4 : GoodIn wsL_isLoan wsX9_lend_r4 := goodIn_r _ [101, 102, 103, 104, 105, 106, 107, 108, 109, 110, 111, 112, 113, 114, 115, 116, 117, 118, 119, 120, 121, 122, 123, 124] (by decide +kernel) (by decide +kernel)
theorem gpL_isLoan_X9_lend_wsX9_lend_r5 : GoodIn wsL_isLoan wsX9_lend_r5 := goodIn_r _ [125, 126, 127, 5, 128, 129, 130, 131, 132, 133, 134, 135, 136, 137, 138, 139, 140, 141, 142, 143, 144, 145, 146, 147] (by decide +kernel) (by decide +kernel)
theorem gpL_isLoan_X9_lend_wsX9_lend_r6 : GoodIn wsL_isLoan wsX9_lend_r6 := goodIn_r _ [148, 149, 150, 151, 152, 153, 154, 155, 156, 157, 158, 159, 160, 161, 162, 163, 164, 165, 166, 167, 168, 169, 170, 171] (by decide +kernel) (by decide +kernel)
theorem gpL_isLoan_X9_lend_wsX9_lend_r7 : GoodIn wsL_isLoan wsX9_lend_r7 := goodIn_r _ [172, 173, 174, 175, 176, 177, 178, 179, 180, 181, 182, 183, 184, 185, 186, 187, 188, 189, 190, 191, 192, 193, 194, 195] (by decide +kernel) (by decide +kernel)
theorem gpL_isLoan_X9_lend_wsX9_lend_r8 : GoodIn wsL_isLoan wsX9_lend_r8 := goodIn_r _ [196, 197, 198, 199, 200, 201, 202, 203, 204, 205, 206, 207, 208, 209, 210, 211, 9, 11, 212, 213, 214, 215, 216, 217] (by decide +kernel) (by decide +kernel)
theorem gpL_isLoan_X9_lend_wsX9_lend_r9 : GoodIn wsL_isLoan wsX9_lend_r9 := goodIn_r _ [218, 219] (by decide +kernel) (by decide +kernel)
theorem gpL_isLoan_X9_lend_wsX90 : GoodIn wsL_isLoan wsX90 := goodIn_r _ [646, 647, 648, 649, 650, 651, 652, 653] (by decide +kernel) (by decide +kernel)
theorem gpL_isLoan_X9_lend_wsX30 : GoodIn wsL_isLoan wsX30 := goodIn_r _ [655, 656, 657, 658, 659, 660, 661, 662] (by decide +kernel) (by decide +kernel)
theorem gpL_isLoan_X9_lend_wsX10 : GoodIn wsL_isLoan wsX10 := goodIn_r _ [663, 664, 665, 666, 667, 668] (by decide +kernel) (by decide +kernel)
theorem gpL_isLoan_X9_lend_wsX80 : GoodIn wsL_isLoan wsX80 := goodIn_r _ [669, 670, 671] (by decide +kernel) (by decide +kernel)
theorem gpL_isLoan_X9_lend_wsX40 : GoodIn wsL_isLoan wsX40 := goodIn_r _ [654] (by decide +kernel) (by decide +kernel)
theorem ggL_isLoan_X9_lend : GoodIn wsL_isLoan wsX9_lend := goodIn_ca (goodIn_ca (goodIn_cons (goodIn_r [_] [31] (by decide +kernel) (by decide +kernel)) (goodIn_app (goodIn_app (goodIn_app (goodIn_app (goodIn_app (goodIn_app gpL_isLoan_X9_lend_wsX9_lend_r1 (goodIn_app gpL_isLoan_X9_lend_wsX9_lend_r2 (goodIn_app gpL_isLoan_X9_lend_wsX9_lend_r3 (goodIn_app gpL_isLoan_X9_lend_wsX9_lend_r4 (goodIn_app gpL_isLoan_X9_lend_wsX9_lend_r5 (goodIn_app gpL_isLoan_X9_lend_wsX9_lend_r6 (goodIn_app gpL_isLoan_X9_lend_wsX9_lend_r7 (goodIn_app gpL_isLoan_X9_lend_wsX9_lend_r8 (gpL_isLoan_X9_lend_wsX9_lend_r9))))))))) gpL_isLoan_X9_lend_wsX90) gpL_isLoan_X9_lend_wsX30) gpL_isLoan_X9_lend_wsX10) gpL_isLoan_X9_lend_wsX80) gpL_isLoan_X9_lend_wsX40)) (goodIn_sub (fun _ h => List.mem_cons_of_mem _ (List.mem_append_left _ (List.mem_append_left _ (List.mem_append_right _ h)))) (by decide +kernel))) (goodIn_sub (fun _ h => List.mem_cons_of_mem _ (List.mem_append_left _ (List.mem_append_right _ h))) (by decide +kernel))
set_option maxRecDepth 20000 in
theorem gL_isLoan_X9_lend : GoodIn wsL_isLoan (wsV RL 39 RX9 yX9_lend wsX9_lend) := goodIn_app (goodIn_of _ (by decide +kernel)) ggL_isLoan_X9_lend
set_option maxRecDepth 20000 in
theorem ggL_isLoan_X9_mode : GoodIn wsL_isLoan wsX9_mode := goodIn_r _ [16, 17, 18, 646, 647, 648, 649, 650, 651, 652, 653, 654] (by decide +kernel) (by decide +kernel)
set_option maxRecDepth 20000 in
theorem gL_isLoan_X9_mode : GoodIn wsL_isLoan (wsV RL 147 RX9 yX9_mode wsX9_mode) := goodIn_app (goodIn_of _ (by decide +kernel)) ggL_isLoan_X9_mode
set_option maxRecDepth 20000 in
theorem ggL_isLoan_X9_rows : GoodIn wsL_isLoan wsX9_rows := goodIn_ca (goodIn_r _ [570, 35, 337, 320, 321, 322, 15, 323, 319, 300, 192, 193, 194, 195, 646, 647, 648, 649, 650, 651, 652, 653, 655, 656, 657, 658, 659, 660, 661, 662] (by decide +kernel) (by decide +kernel)) (goodIn_sub (fun _ h => List.mem_cons_of_mem _ (List.mem_append_left _ (List.mem_append_right _ h))) (by decide +kernel))
set_option maxRecDepth 20000 in
theorem gL_isLoan_X9_rows : GoodIn wsL_isLoan (wsV RL 115 RX9 yX9_rows wsX9_rows) := goodIn_app (goodIn_of _ (by decide +kernel)) ggL_isLoan_X9_rows
