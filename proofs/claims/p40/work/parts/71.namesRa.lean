-- printed rows that the walks use
theorem dL_areRefused_0 : decode cL_areRefused 0 = .ok (.aload_n 1, 1) := by decide +kernel
theorem dL_areRefused_1 : decode cL_areRefused 1 = .ok (.iconst 2, 1) := by decide +kernel
theorem dL_areRefused_10 : decode cL_areRefused 10 = .ok (.aload_n 1, 1) := by decide +kernel
theorem dL_areRefused_100 : decode cL_areRefused 100 = .ok (.iconst 1, 1) := by decide +kernel
theorem dL_areRefused_101 : decode cL_areRefused 101 = .ok (.bipush 7, 2) := by decide +kernel
theorem dL_areRefused_103 : decode cL_areRefused 103 = .ok (.invokestatic 161, 3) := by decide +kernel
theorem dL_areRefused_106 : decode cL_areRefused 106 = .ok (.ldc2_w 127, 3) := by decide +kernel
theorem dL_areRefused_109 : decode cL_areRefused 109 = .ok (.lcmp, 1) := by decide +kernel
theorem dL_areRefused_11 : decode cL_areRefused 11 = .ok (.bipush 9, 2) := by decide +kernel
theorem dL_areRefused_110 : decode cL_areRefused 110 = .ok (.ifCond .ne 185, 3) := by decide +kernel
theorem dL_areRefused_113 : decode cL_areRefused 113 = .ok (.aload_n 0, 1) := by decide +kernel
theorem dL_areRefused_114 : decode cL_areRefused 114 = .ok (.iconst 1, 1) := by decide +kernel
theorem dL_areRefused_115 : decode cL_areRefused 115 = .ok (.ldc2_w 257, 3) := by decide +kernel
theorem dL_areRefused_118 : decode cL_areRefused 118 = .ok (.iload_n 2, 1) := by decide +kernel
theorem dL_areRefused_119 : decode cL_areRefused 119 = .ok (.iconst 0, 1) := by decide +kernel
theorem dL_areRefused_120 : decode cL_areRefused 120 = .ok (.invokestatic 161, 3) := by decide +kernel
theorem dL_areRefused_123 : decode cL_areRefused 123 = .ok (.ldc2_w 127, 3) := by decide +kernel
theorem dL_areRefused_126 : decode cL_areRefused 126 = .ok (.lcmp, 1) := by decide +kernel
theorem dL_areRefused_127 : decode cL_areRefused 127 = .ok (.ifCond .ne 168, 3) := by decide +kernel
theorem dL_areRefused_13 : decode cL_areRefused 13 = .ok (.invokestatic 13, 3) := by decide +kernel
theorem dL_areRefused_130 : decode cL_areRefused 130 = .ok (.aload_n 0, 1) := by decide +kernel
theorem dL_areRefused_131 : decode cL_areRefused 131 = .ok (.iconst 1, 1) := by decide +kernel
theorem dL_areRefused_132 : decode cL_areRefused 132 = .ok (.ldc2_w 259, 3) := by decide +kernel
theorem dL_areRefused_135 : decode cL_areRefused 135 = .ok (.iconst 0, 1) := by decide +kernel
theorem dL_areRefused_136 : decode cL_areRefused 136 = .ok (.iconst 0, 1) := by decide +kernel
theorem dL_areRefused_137 : decode cL_areRefused 137 = .ok (.invokestatic 161, 3) := by decide +kernel
theorem dL_areRefused_140 : decode cL_areRefused 140 = .ok (.ldc2_w 127, 3) := by decide +kernel
theorem dL_areRefused_143 : decode cL_areRefused 143 = .ok (.lcmp, 1) := by decide +kernel
theorem dL_areRefused_144 : decode cL_areRefused 144 = .ok (.ifCond .ne 151, 3) := by decide +kernel
theorem dL_areRefused_147 : decode cL_areRefused 147 = .ok (.aload_n 0, 1) := by decide +kernel
theorem dL_areRefused_148 : decode cL_areRefused 148 = .ok (.iconst 2, 1) := by decide +kernel
theorem dL_areRefused_149 : decode cL_areRefused 149 = .ok (.ldc2_w 257, 3) := by decide +kernel
theorem dL_areRefused_152 : decode cL_areRefused 152 = .ok (.bipush 40, 2) := by decide +kernel
theorem dL_areRefused_154 : decode cL_areRefused 154 = .ok (.iconst 2, 1) := by decide +kernel
theorem dL_areRefused_155 : decode cL_areRefused 155 = .ok (.invokestatic 161, 3) := by decide +kernel
theorem dL_areRefused_158 : decode cL_areRefused 158 = .ok (.ldc2_w 127, 3) := by decide +kernel
theorem dL_areRefused_16 : decode cL_areRefused 16 = .ok (.iadd, 1) := by decide +kernel
theorem dL_areRefused_161 : decode cL_areRefused 161 = .ok (.lcmp, 1) := by decide +kernel
theorem dL_areRefused_162 : decode cL_areRefused 162 = .ok (.ifCond .ne 133, 3) := by decide +kernel
theorem dL_areRefused_165 : decode cL_areRefused 165 = .ok (.aload_n 0, 1) := by decide +kernel
theorem dL_areRefused_166 : decode cL_areRefused 166 = .ok (.iconst 2, 1) := by decide +kernel
theorem dL_areRefused_167 : decode cL_areRefused 167 = .ok (.ldc2_w 257, 3) := by decide +kernel
theorem dL_areRefused_17 : decode cL_areRefused 17 = .ok (.goto 11, 3) := by decide +kernel
theorem dL_areRefused_170 : decode cL_areRefused 170 = .ok (.iconst 0, 1) := by decide +kernel
theorem dL_areRefused_171 : decode cL_areRefused 171 = .ok (.iconst 0, 1) := by decide +kernel
theorem dL_areRefused_172 : decode cL_areRefused 172 = .ok (.invokestatic 161, 3) := by decide +kernel
theorem dL_areRefused_175 : decode cL_areRefused 175 = .ok (.ldc2_w 127, 3) := by decide +kernel
theorem dL_areRefused_178 : decode cL_areRefused 178 = .ok (.lcmp, 1) := by decide +kernel
theorem dL_areRefused_179 : decode cL_areRefused 179 = .ok (.ifCond .ne 116, 3) := by decide +kernel
theorem dL_areRefused_182 : decode cL_areRefused 182 = .ok (.aload_n 0, 1) := by decide +kernel
theorem dL_areRefused_183 : decode cL_areRefused 183 = .ok (.iconst 2, 1) := by decide +kernel
theorem dL_areRefused_184 : decode cL_areRefused 184 = .ok (.ldc2_w 257, 3) := by decide +kernel
theorem dL_areRefused_187 : decode cL_areRefused 187 = .ok (.iconst 0, 1) := by decide +kernel
theorem dL_areRefused_188 : decode cL_areRefused 188 = .ok (.bipush 42, 2) := by decide +kernel
theorem dL_areRefused_190 : decode cL_areRefused 190 = .ok (.invokestatic 161, 3) := by decide +kernel
theorem dL_areRefused_193 : decode cL_areRefused 193 = .ok (.ldc2_w 127, 3) := by decide +kernel
theorem dL_areRefused_196 : decode cL_areRefused 196 = .ok (.lcmp, 1) := by decide +kernel
theorem dL_areRefused_197 : decode cL_areRefused 197 = .ok (.ifCond .ne 98, 3) := by decide +kernel
theorem dL_areRefused_2 : decode cL_areRefused 2 = .ok (.invokestatic 13, 3) := by decide +kernel
theorem dL_areRefused_20 : decode cL_areRefused 20 = .ok (.iconst (-1), 1) := by decide +kernel
theorem dL_areRefused_200 : decode cL_areRefused 200 = .ok (.aload_n 0, 1) := by decide +kernel
theorem dL_areRefused_201 : decode cL_areRefused 201 = .ok (.iconst 3, 1) := by decide +kernel
theorem dL_areRefused_202 : decode cL_areRefused 202 = .ok (.lconst 0, 1) := by decide +kernel
theorem dL_areRefused_203 : decode cL_areRefused 203 = .ok (.iload_n 2, 1) := by decide +kernel
theorem dL_areRefused_204 : decode cL_areRefused 204 = .ok (.iconst 5, 1) := by decide +kernel
theorem dL_areRefused_205 : decode cL_areRefused 205 = .ok (.invokestatic 161, 3) := by decide +kernel
theorem dL_areRefused_208 : decode cL_areRefused 208 = .ok (.ldc2_w 127, 3) := by decide +kernel
theorem dL_areRefused_21 : decode cL_areRefused 21 = .ok (.aload_n 1, 1) := by decide +kernel
theorem dL_areRefused_211 : decode cL_areRefused 211 = .ok (.lcmp, 1) := by decide +kernel
theorem dL_areRefused_212 : decode cL_areRefused 212 = .ok (.ifCond .ne 83, 3) := by decide +kernel
theorem dL_areRefused_215 : decode cL_areRefused 215 = .ok (.aload_n 0, 1) := by decide +kernel
theorem dL_areRefused_216 : decode cL_areRefused 216 = .ok (.iconst 3, 1) := by decide +kernel
theorem dL_areRefused_217 : decode cL_areRefused 217 = .ok (.lconst 0, 1) := by decide +kernel
theorem dL_areRefused_218 : decode cL_areRefused 218 = .ok (.iconst 0, 1) := by decide +kernel
theorem dL_areRefused_219 : decode cL_areRefused 219 = .ok (.iload_n 3, 1) := by decide +kernel
theorem dL_areRefused_22 : decode cL_areRefused 22 = .ok (.bipush 9, 2) := by decide +kernel
theorem dL_areRefused_220 : decode cL_areRefused 220 = .ok (.invokestatic 161, 3) := by decide +kernel
theorem dL_areRefused_223 : decode cL_areRefused 223 = .ok (.ldc2_w 127, 3) := by decide +kernel
theorem dL_areRefused_226 : decode cL_areRefused 226 = .ok (.lcmp, 1) := by decide +kernel
theorem dL_areRefused_227 : decode cL_areRefused 227 = .ok (.ifCond .ne 68, 3) := by decide +kernel
theorem dL_areRefused_230 : decode cL_areRefused 230 = .ok (.aload_n 0, 1) := by decide +kernel
theorem dL_areRefused_231 : decode cL_areRefused 231 = .ok (.bipush 28, 2) := by decide +kernel
theorem dL_areRefused_233 : decode cL_areRefused 233 = .ok (.lconst 0, 1) := by decide +kernel
theorem dL_areRefused_234 : decode cL_areRefused 234 = .ok (.iload_n 3, 1) := by decide +kernel
theorem dL_areRefused_235 : decode cL_areRefused 235 = .ok (.iconst 0, 1) := by decide +kernel
theorem dL_areRefused_236 : decode cL_areRefused 236 = .ok (.invokestatic 161, 3) := by decide +kernel
theorem dL_areRefused_239 : decode cL_areRefused 239 = .ok (.ldc2_w 127, 3) := by decide +kernel
theorem dL_areRefused_24 : decode cL_areRefused 24 = .ok (.invokestatic 13, 3) := by decide +kernel
theorem dL_areRefused_242 : decode cL_areRefused 242 = .ok (.lcmp, 1) := by decide +kernel
theorem dL_areRefused_243 : decode cL_areRefused 243 = .ok (.ifCond .ne 52, 3) := by decide +kernel
theorem dL_areRefused_246 : decode cL_areRefused 246 = .ok (.aload_n 0, 1) := by decide +kernel
theorem dL_areRefused_247 : decode cL_areRefused 247 = .ok (.bipush 24, 2) := by decide +kernel
theorem dL_areRefused_249 : decode cL_areRefused 249 = .ok (.lconst 0, 1) := by decide +kernel
theorem dL_areRefused_250 : decode cL_areRefused 250 = .ok (.iload_n 2, 1) := by decide +kernel
theorem dL_areRefused_251 : decode cL_areRefused 251 = .ok (.iconst 0, 1) := by decide +kernel
theorem dL_areRefused_252 : decode cL_areRefused 252 = .ok (.invokestatic 161, 3) := by decide +kernel
theorem dL_areRefused_255 : decode cL_areRefused 255 = .ok (.ldc2_w 127, 3) := by decide +kernel
theorem dL_areRefused_258 : decode cL_areRefused 258 = .ok (.lcmp, 1) := by decide +kernel
theorem dL_areRefused_259 : decode cL_areRefused 259 = .ok (.ifCond .ne 36, 3) := by decide +kernel
theorem dL_areRefused_262 : decode cL_areRefused 262 = .ok (.aload_n 0, 1) := by decide +kernel
theorem dL_areRefused_263 : decode cL_areRefused 263 = .ok (.bipush 23, 2) := by decide +kernel
theorem dL_areRefused_265 : decode cL_areRefused 265 = .ok (.lconst 0, 1) := by decide +kernel
theorem dL_areRefused_266 : decode cL_areRefused 266 = .ok (.bipush 8, 2) := by decide +kernel
theorem dL_areRefused_268 : decode cL_areRefused 268 = .ok (.iconst 0, 1) := by decide +kernel
theorem dL_areRefused_269 : decode cL_areRefused 269 = .ok (.invokestatic 161, 3) := by decide +kernel
theorem dL_areRefused_27 : decode cL_areRefused 27 = .ok (.isub, 1) := by decide +kernel
theorem dL_areRefused_272 : decode cL_areRefused 272 = .ok (.ldc2_w 127, 3) := by decide +kernel
theorem dL_areRefused_275 : decode cL_areRefused 275 = .ok (.lcmp, 1) := by decide +kernel
theorem dL_areRefused_276 : decode cL_areRefused 276 = .ok (.ifCond .ne 19, 3) := by decide +kernel
theorem dL_areRefused_279 : decode cL_areRefused 279 = .ok (.aload_n 0, 1) := by decide +kernel
theorem dL_areRefused_28 : decode cL_areRefused 28 = .ok (.istore_n 2, 1) := by decide +kernel
theorem dL_areRefused_280 : decode cL_areRefused 280 = .ok (.bipush 23, 2) := by decide +kernel
theorem dL_areRefused_282 : decode cL_areRefused 282 = .ok (.lconst 0, 1) := by decide +kernel
theorem dL_areRefused_283 : decode cL_areRefused 283 = .ok (.iconst (-1), 1) := by decide +kernel
theorem dL_areRefused_284 : decode cL_areRefused 284 = .ok (.iconst 0, 1) := by decide +kernel
theorem dL_areRefused_285 : decode cL_areRefused 285 = .ok (.invokestatic 161, 3) := by decide +kernel
theorem dL_areRefused_288 : decode cL_areRefused 288 = .ok (.ldc2_w 127, 3) := by decide +kernel
theorem dL_areRefused_29 : decode cL_areRefused 29 = .ok (.aload_n 1, 1) := by decide +kernel
theorem dL_areRefused_291 : decode cL_areRefused 291 = .ok (.lcmp, 1) := by decide +kernel
theorem dL_areRefused_292 : decode cL_areRefused 292 = .ok (.ifCond .eq 5, 3) := by decide +kernel
theorem dL_areRefused_297 : decode cL_areRefused 297 = .ok (.aload_n 0, 1) := by decide +kernel
theorem dL_areRefused_298 : decode cL_areRefused 298 = .ok (.iconst 2, 1) := by decide +kernel
theorem dL_areRefused_299 : decode cL_areRefused 299 = .ok (.ldc2_w 227, 3) := by decide +kernel
theorem dL_areRefused_30 : decode cL_areRefused 30 = .ok (.iconst 2, 1) := by decide +kernel
theorem dL_areRefused_302 : decode cL_areRefused 302 = .ok (.iconst 3, 1) := by decide +kernel
theorem dL_areRefused_303 : decode cL_areRefused 303 = .ok (.iconst 2, 1) := by decide +kernel
theorem dL_areRefused_304 : decode cL_areRefused 304 = .ok (.invokestatic 161, 3) := by decide +kernel
theorem dL_areRefused_307 : decode cL_areRefused 307 = .ok (.ldc2_w 145, 3) := by decide +kernel
theorem dL_areRefused_31 : decode cL_areRefused 31 = .ok (.invokestatic 13, 3) := by decide +kernel
theorem dL_areRefused_310 : decode cL_areRefused 310 = .ok (.lcmp, 1) := by decide +kernel
theorem dL_areRefused_311 : decode cL_areRefused 311 = .ok (.ifCond .ne 81, 3) := by decide +kernel
theorem dL_areRefused_314 : decode cL_areRefused 314 = .ok (.aload_n 0, 1) := by decide +kernel
theorem dL_areRefused_315 : decode cL_areRefused 315 = .ok (.iconst 1, 1) := by decide +kernel
theorem dL_areRefused_316 : decode cL_areRefused 316 = .ok (.lconst 1, 1) := by decide +kernel
theorem dL_areRefused_317 : decode cL_areRefused 317 = .ok (.iconst 4, 1) := by decide +kernel
theorem dL_areRefused_318 : decode cL_areRefused 318 = .ok (.iconst 0, 1) := by decide +kernel
theorem dL_areRefused_319 : decode cL_areRefused 319 = .ok (.invokestatic 161, 3) := by decide +kernel
theorem dL_areRefused_322 : decode cL_areRefused 322 = .ok (.ldc2_w 131, 3) := by decide +kernel
theorem dL_areRefused_325 : decode cL_areRefused 325 = .ok (.lcmp, 1) := by decide +kernel
theorem dL_areRefused_326 : decode cL_areRefused 326 = .ok (.ifCond .ne 66, 3) := by decide +kernel
theorem dL_areRefused_329 : decode cL_areRefused 329 = .ok (.aload_n 0, 1) := by decide +kernel
theorem dL_areRefused_330 : decode cL_areRefused 330 = .ok (.iconst 2, 1) := by decide +kernel
theorem dL_areRefused_331 : decode cL_areRefused 331 = .ok (.lconst 1, 1) := by decide +kernel
theorem dL_areRefused_332 : decode cL_areRefused 332 = .ok (.iconst 2, 1) := by decide +kernel
theorem dL_areRefused_333 : decode cL_areRefused 333 = .ok (.iconst 2, 1) := by decide +kernel
theorem dL_areRefused_334 : decode cL_areRefused 334 = .ok (.invokestatic 161, 3) := by decide +kernel
theorem dL_areRefused_337 : decode cL_areRefused 337 = .ok (.ldc2_w 131, 3) := by decide +kernel
theorem dL_areRefused_34 : decode cL_areRefused 34 = .ok (.ifCond .ne 16, 3) := by decide +kernel
theorem dL_areRefused_340 : decode cL_areRefused 340 = .ok (.lcmp, 1) := by decide +kernel
theorem dL_areRefused_341 : decode cL_areRefused 341 = .ok (.ifCond .ne 51, 3) := by decide +kernel
theorem dL_areRefused_344 : decode cL_areRefused 344 = .ok (.aload_n 0, 1) := by decide +kernel
theorem dL_areRefused_345 : decode cL_areRefused 345 = .ok (.iconst 2, 1) := by decide +kernel
theorem dL_areRefused_346 : decode cL_areRefused 346 = .ok (.invokevirtual 108, 3) := by decide +kernel
theorem dL_areRefused_349 : decode cL_areRefused 349 = .ok (.lconst 0, 1) := by decide +kernel
theorem dL_areRefused_350 : decode cL_areRefused 350 = .ok (.lcmp, 1) := by decide +kernel
theorem dL_areRefused_351 : decode cL_areRefused 351 = .ok (.ifCond .ne 41, 3) := by decide +kernel
theorem dL_areRefused_354 : decode cL_areRefused 354 = .ok (.aload_n 0, 1) := by decide +kernel
theorem dL_areRefused_355 : decode cL_areRefused 355 = .ok (.iconst 2, 1) := by decide +kernel
theorem dL_areRefused_356 : decode cL_areRefused 356 = .ok (.ldc2_w 261, 3) := by decide +kernel
theorem dL_areRefused_359 : decode cL_areRefused 359 = .ok (.iconst 3, 1) := by decide +kernel
theorem dL_areRefused_360 : decode cL_areRefused 360 = .ok (.iconst 1, 1) := by decide +kernel
theorem dL_areRefused_361 : decode cL_areRefused 361 = .ok (.invokestatic 161, 3) := by decide +kernel
theorem dL_areRefused_364 : decode cL_areRefused 364 = .ok (.lconst 1, 1) := by decide +kernel
theorem dL_areRefused_365 : decode cL_areRefused 365 = .ok (.lcmp, 1) := by decide +kernel
theorem dL_areRefused_366 : decode cL_areRefused 366 = .ok (.ifCond .ne 26, 3) := by decide +kernel
theorem dL_areRefused_369 : decode cL_areRefused 369 = .ok (.aload_n 0, 1) := by decide +kernel
theorem dL_areRefused_37 : decode cL_areRefused 37 = .ok (.sipush 20001, 3) := by decide +kernel
theorem dL_areRefused_370 : decode cL_areRefused 370 = .ok (.iconst 4, 1) := by decide +kernel
theorem dL_areRefused_371 : decode cL_areRefused 371 = .ok (.invokevirtual 108, 3) := by decide +kernel
theorem dL_areRefused_374 : decode cL_areRefused 374 = .ok (.ldc2_w 227, 3) := by decide +kernel
theorem dL_areRefused_377 : decode cL_areRefused 377 = .ok (.lcmp, 1) := by decide +kernel
theorem dL_areRefused_378 : decode cL_areRefused 378 = .ok (.ifCond .ne 14, 3) := by decide +kernel
theorem dL_areRefused_381 : decode cL_areRefused 381 = .ok (.aload_n 0, 1) := by decide +kernel
theorem dL_areRefused_382 : decode cL_areRefused 382 = .ok (.invokevirtual 263, 3) := by decide +kernel
theorem dL_areRefused_385 : decode cL_areRefused 385 = .ok (.ldc2_w 267, 3) := by decide +kernel
theorem dL_areRefused_388 : decode cL_areRefused 388 = .ok (.dcmp .l, 1) := by decide +kernel
theorem dL_areRefused_389 : decode cL_areRefused 389 = .ok (.ifCond .eq 5, 3) := by decide +kernel
theorem dL_areRefused_394 : decode cL_areRefused 394 = .ok (.aload_n 0, 1) := by decide +kernel
theorem dL_areRefused_395 : decode cL_areRefused 395 = .ok (.iconst 5, 1) := by decide +kernel
theorem dL_areRefused_396 : decode cL_areRefused 396 = .ok (.lconst 0, 1) := by decide +kernel
theorem dL_areRefused_397 : decode cL_areRefused 397 = .ok (.iconst 5, 1) := by decide +kernel
theorem dL_areRefused_398 : decode cL_areRefused 398 = .ok (.iconst 5, 1) := by decide +kernel
theorem dL_areRefused_399 : decode cL_areRefused 399 = .ok (.invokestatic 161, 3) := by decide +kernel
theorem dL_areRefused_40 : decode cL_areRefused 40 = .ok (.aload_n 1, 1) := by decide +kernel
theorem dL_areRefused_402 : decode cL_areRefused 402 = .ok (.ldc2_w 127, 3) := by decide +kernel
theorem dL_areRefused_405 : decode cL_areRefused 405 = .ok (.lcmp, 1) := by decide +kernel
theorem dL_areRefused_406 : decode cL_areRefused 406 = .ok (.ifCond .ne 222, 3) := by decide +kernel
theorem dL_areRefused_409 : decode cL_areRefused 409 = .ok (.aload_n 0, 1) := by decide +kernel
theorem dL_areRefused_41 : decode cL_areRefused 41 = .ok (.bipush 9, 2) := by decide +kernel
theorem dL_areRefused_410 : decode cL_areRefused 410 = .ok (.iconst 5, 1) := by decide +kernel
theorem dL_areRefused_411 : decode cL_areRefused 411 = .ok (.ldc2_w 257, 3) := by decide +kernel
theorem dL_areRefused_414 : decode cL_areRefused 414 = .ok (.iload_n 3, 1) := by decide +kernel
theorem dL_areRefused_415 : decode cL_areRefused 415 = .ok (.iconst 5, 1) := by decide +kernel
theorem dL_areRefused_416 : decode cL_areRefused 416 = .ok (.invokestatic 161, 3) := by decide +kernel
theorem dL_areRefused_419 : decode cL_areRefused 419 = .ok (.ldc2_w 127, 3) := by decide +kernel
theorem dL_areRefused_422 : decode cL_areRefused 422 = .ok (.lcmp, 1) := by decide +kernel
theorem dL_areRefused_423 : decode cL_areRefused 423 = .ok (.ifCond .ne 205, 3) := by decide +kernel
theorem dL_areRefused_426 : decode cL_areRefused 426 = .ok (.aload_n 0, 1) := by decide +kernel
theorem dL_areRefused_427 : decode cL_areRefused 427 = .ok (.iconst 5, 1) := by decide +kernel
theorem dL_areRefused_428 : decode cL_areRefused 428 = .ok (.ldc2_w 257, 3) := by decide +kernel
theorem dL_areRefused_43 : decode cL_areRefused 43 = .ok (.invokestatic 13, 3) := by decide +kernel
theorem dL_areRefused_431 : decode cL_areRefused 431 = .ok (.iconst 5, 1) := by decide +kernel
theorem dL_areRefused_432 : decode cL_areRefused 432 = .ok (.bipush 61, 2) := by decide +kernel
theorem dL_areRefused_434 : decode cL_areRefused 434 = .ok (.invokestatic 161, 3) := by decide +kernel
theorem dL_areRefused_437 : decode cL_areRefused 437 = .ok (.ldc2_w 127, 3) := by decide +kernel
theorem dL_areRefused_440 : decode cL_areRefused 440 = .ok (.lcmp, 1) := by decide +kernel
theorem dL_areRefused_441 : decode cL_areRefused 441 = .ok (.ifCond .ne 187, 3) := by decide +kernel
theorem dL_areRefused_444 : decode cL_areRefused 444 = .ok (.aload_n 0, 1) := by decide +kernel
theorem dL_areRefused_445 : decode cL_areRefused 445 = .ok (.bipush 11, 2) := by decide +kernel
theorem dL_areRefused_447 : decode cL_areRefused 447 = .ok (.ldc2_w 257, 3) := by decide +kernel
theorem dL_areRefused_450 : decode cL_areRefused 450 = .ok (.bipush 41, 2) := by decide +kernel
theorem dL_areRefused_452 : decode cL_areRefused 452 = .ok (.iconst 5, 1) := by decide +kernel
theorem dL_areRefused_453 : decode cL_areRefused 453 = .ok (.invokestatic 161, 3) := by decide +kernel
theorem dL_areRefused_456 : decode cL_areRefused 456 = .ok (.ldc2_w 127, 3) := by decide +kernel
theorem dL_areRefused_459 : decode cL_areRefused 459 = .ok (.lcmp, 1) := by decide +kernel
theorem dL_areRefused_46 : decode cL_areRefused 46 = .ok (.iadd, 1) := by decide +kernel
theorem dL_areRefused_460 : decode cL_areRefused 460 = .ok (.ifCond .ne 168, 3) := by decide +kernel
theorem dL_areRefused_463 : decode cL_areRefused 463 = .ok (.aload_n 0, 1) := by decide +kernel
theorem dL_areRefused_464 : decode cL_areRefused 464 = .ok (.bipush 11, 2) := by decide +kernel
theorem dL_areRefused_466 : decode cL_areRefused 466 = .ok (.ldc2_w 191, 3) := by decide +kernel
theorem dL_areRefused_469 : decode cL_areRefused 469 = .ok (.iconst 4, 1) := by decide +kernel
theorem dL_areRefused_47 : decode cL_areRefused 47 = .ok (.goto 11, 3) := by decide +kernel
theorem dL_areRefused_470 : decode cL_areRefused 470 = .ok (.iconst 5, 1) := by decide +kernel
theorem dL_areRefused_471 : decode cL_areRefused 471 = .ok (.invokestatic 161, 3) := by decide +kernel
theorem dL_areRefused_474 : decode cL_areRefused 474 = .ok (.ldc2_w 127, 3) := by decide +kernel
theorem dL_areRefused_477 : decode cL_areRefused 477 = .ok (.lcmp, 1) := by decide +kernel
theorem dL_areRefused_478 : decode cL_areRefused 478 = .ok (.ifCond .ne 150, 3) := by decide +kernel
theorem dL_areRefused_481 : decode cL_areRefused 481 = .ok (.aload_n 0, 1) := by decide +kernel
theorem dL_areRefused_482 : decode cL_areRefused 482 = .ok (.bipush 11, 2) := by decide +kernel
theorem dL_areRefused_484 : decode cL_areRefused 484 = .ok (.ldc2_w 257, 3) := by decide +kernel
theorem dL_areRefused_487 : decode cL_areRefused 487 = .ok (.iconst 4, 1) := by decide +kernel
theorem dL_areRefused_488 : decode cL_areRefused 488 = .ok (.iload_n 3, 1) := by decide +kernel
theorem dL_areRefused_489 : decode cL_areRefused 489 = .ok (.invokestatic 161, 3) := by decide +kernel
theorem dL_areRefused_492 : decode cL_areRefused 492 = .ok (.ldc2_w 127, 3) := by decide +kernel
theorem dL_areRefused_495 : decode cL_areRefused 495 = .ok (.lcmp, 1) := by decide +kernel
theorem dL_areRefused_496 : decode cL_areRefused 496 = .ok (.ifCond .ne 132, 3) := by decide +kernel
theorem dL_areRefused_499 : decode cL_areRefused 499 = .ok (.aload_n 0, 1) := by decide +kernel
theorem dL_areRefused_5 : decode cL_areRefused 5 = .ok (.ifCond .ne 15, 3) := by decide +kernel
theorem dL_areRefused_50 : decode cL_areRefused 50 = .ok (.iconst (-1), 1) := by decide +kernel
theorem dL_areRefused_500 : decode cL_areRefused 500 = .ok (.bipush 22, 2) := by decide +kernel
theorem dL_areRefused_502 : decode cL_areRefused 502 = .ok (.ldc2_w 257, 3) := by decide +kernel
theorem dL_areRefused_505 : decode cL_areRefused 505 = .ok (.iconst 0, 1) := by decide +kernel
theorem dL_areRefused_506 : decode cL_areRefused 506 = .ok (.iconst 5, 1) := by decide +kernel
theorem dL_areRefused_507 : decode cL_areRefused 507 = .ok (.invokestatic 161, 3) := by decide +kernel
theorem dL_areRefused_51 : decode cL_areRefused 51 = .ok (.aload_n 1, 1) := by decide +kernel
theorem dL_areRefused_510 : decode cL_areRefused 510 = .ok (.ldc2_w 127, 3) := by decide +kernel
theorem dL_areRefused_513 : decode cL_areRefused 513 = .ok (.lcmp, 1) := by decide +kernel
theorem dL_areRefused_514 : decode cL_areRefused 514 = .ok (.ifCond .ne 114, 3) := by decide +kernel
theorem dL_areRefused_517 : decode cL_areRefused 517 = .ok (.aload_n 0, 1) := by decide +kernel
theorem dL_areRefused_518 : decode cL_areRefused 518 = .ok (.bipush 22, 2) := by decide +kernel
theorem dL_areRefused_52 : decode cL_areRefused 52 = .ok (.bipush 9, 2) := by decide +kernel
theorem dL_areRefused_520 : decode cL_areRefused 520 = .ok (.ldc2_w 257, 3) := by decide +kernel
theorem dL_areRefused_523 : decode cL_areRefused 523 = .ok (.iconst 4, 1) := by decide +kernel
theorem dL_areRefused_524 : decode cL_areRefused 524 = .ok (.iconst (-1), 1) := by decide +kernel
theorem dL_areRefused_525 : decode cL_areRefused 525 = .ok (.invokestatic 161, 3) := by decide +kernel
theorem dL_areRefused_528 : decode cL_areRefused 528 = .ok (.ldc2_w 127, 3) := by decide +kernel
theorem dL_areRefused_531 : decode cL_areRefused 531 = .ok (.lcmp, 1) := by decide +kernel
theorem dL_areRefused_532 : decode cL_areRefused 532 = .ok (.ifCond .ne 96, 3) := by decide +kernel
theorem dL_areRefused_535 : decode cL_areRefused 535 = .ok (.aload_n 0, 1) := by decide +kernel
theorem dL_areRefused_536 : decode cL_areRefused 536 = .ok (.bipush 12, 2) := by decide +kernel
theorem dL_areRefused_538 : decode cL_areRefused 538 = .ok (.ldc2_w 257, 3) := by decide +kernel
theorem dL_areRefused_54 : decode cL_areRefused 54 = .ok (.invokestatic 13, 3) := by decide +kernel
theorem dL_areRefused_541 : decode cL_areRefused 541 = .ok (.bipush 8, 2) := by decide +kernel
theorem dL_areRefused_543 : decode cL_areRefused 543 = .ok (.bipush 7, 2) := by decide +kernel
theorem dL_areRefused_545 : decode cL_areRefused 545 = .ok (.invokestatic 161, 3) := by decide +kernel
theorem dL_areRefused_548 : decode cL_areRefused 548 = .ok (.ldc2_w 127, 3) := by decide +kernel
theorem dL_areRefused_551 : decode cL_areRefused 551 = .ok (.lcmp, 1) := by decide +kernel
theorem dL_areRefused_552 : decode cL_areRefused 552 = .ok (.ifCond .ne 76, 3) := by decide +kernel
theorem dL_areRefused_555 : decode cL_areRefused 555 = .ok (.aload_n 0, 1) := by decide +kernel
theorem dL_areRefused_556 : decode cL_areRefused 556 = .ok (.bipush 12, 2) := by decide +kernel
theorem dL_areRefused_558 : decode cL_areRefused 558 = .ok (.ldc2_w 257, 3) := by decide +kernel
theorem dL_areRefused_561 : decode cL_areRefused 561 = .ok (.iconst 0, 1) := by decide +kernel
theorem dL_areRefused_562 : decode cL_areRefused 562 = .ok (.sipush 367, 3) := by decide +kernel
theorem dL_areRefused_565 : decode cL_areRefused 565 = .ok (.invokestatic 161, 3) := by decide +kernel
theorem dL_areRefused_568 : decode cL_areRefused 568 = .ok (.ldc2_w 127, 3) := by decide +kernel
theorem dL_areRefused_57 : decode cL_areRefused 57 = .ok (.isub, 1) := by decide +kernel
theorem dL_areRefused_571 : decode cL_areRefused 571 = .ok (.lcmp, 1) := by decide +kernel
theorem dL_areRefused_572 : decode cL_areRefused 572 = .ok (.ifCond .ne 56, 3) := by decide +kernel
theorem dL_areRefused_575 : decode cL_areRefused 575 = .ok (.aload_n 0, 1) := by decide +kernel
theorem dL_areRefused_576 : decode cL_areRefused 576 = .ok (.bipush 17, 2) := by decide +kernel
theorem dL_areRefused_578 : decode cL_areRefused 578 = .ok (.lconst 0, 1) := by decide +kernel
theorem dL_areRefused_579 : decode cL_areRefused 579 = .ok (.ldc 223, 2) := by decide +kernel
theorem dL_areRefused_58 : decode cL_areRefused 58 = .ok (.istore_n 3, 1) := by decide +kernel
theorem dL_areRefused_581 : decode cL_areRefused 581 = .ok (.iconst 0, 1) := by decide +kernel
theorem dL_areRefused_582 : decode cL_areRefused 582 = .ok (.invokestatic 161, 3) := by decide +kernel
theorem dL_areRefused_585 : decode cL_areRefused 585 = .ok (.ldc2_w 127, 3) := by decide +kernel
theorem dL_areRefused_588 : decode cL_areRefused 588 = .ok (.lcmp, 1) := by decide +kernel
theorem dL_areRefused_589 : decode cL_areRefused 589 = .ok (.ifCond .ne 39, 3) := by decide +kernel
theorem dL_areRefused_59 : decode cL_areRefused 59 = .ok (.aload_n 0, 1) := by decide +kernel
theorem dL_areRefused_592 : decode cL_areRefused 592 = .ok (.aload_n 0, 1) := by decide +kernel
theorem dL_areRefused_593 : decode cL_areRefused 593 = .ok (.bipush 20, 2) := by decide +kernel
theorem dL_areRefused_595 : decode cL_areRefused 595 = .ok (.ldc2_w 191, 3) := by decide +kernel
theorem dL_areRefused_598 : decode cL_areRefused 598 = .ok (.iconst 0, 1) := by decide +kernel
theorem dL_areRefused_599 : decode cL_areRefused 599 = .ok (.iconst 0, 1) := by decide +kernel
theorem dL_areRefused_60 : decode cL_areRefused 60 = .ok (.invokevirtual 166, 3) := by decide +kernel
theorem dL_areRefused_600 : decode cL_areRefused 600 = .ok (.invokestatic 161, 3) := by decide +kernel
theorem dL_areRefused_603 : decode cL_areRefused 603 = .ok (.ldc2_w 127, 3) := by decide +kernel
theorem dL_areRefused_606 : decode cL_areRefused 606 = .ok (.lcmp, 1) := by decide +kernel
theorem dL_areRefused_607 : decode cL_areRefused 607 = .ok (.ifCond .ne 21, 3) := by decide +kernel
theorem dL_areRefused_610 : decode cL_areRefused 610 = .ok (.aload_n 0, 1) := by decide +kernel
theorem dL_areRefused_611 : decode cL_areRefused 611 = .ok (.bipush 21, 2) := by decide +kernel
theorem dL_areRefused_613 : decode cL_areRefused 613 = .ok (.ldc2_w 259, 3) := by decide +kernel
theorem dL_areRefused_616 : decode cL_areRefused 616 = .ok (.iconst 0, 1) := by decide +kernel
theorem dL_areRefused_617 : decode cL_areRefused 617 = .ok (.iconst 0, 1) := by decide +kernel
theorem dL_areRefused_618 : decode cL_areRefused 618 = .ok (.invokestatic 161, 3) := by decide +kernel
theorem dL_areRefused_621 : decode cL_areRefused 621 = .ok (.ldc2_w 127, 3) := by decide +kernel
theorem dL_areRefused_624 : decode cL_areRefused 624 = .ok (.lcmp, 1) := by decide +kernel
theorem dL_areRefused_625 : decode cL_areRefused 625 = .ok (.ifCond .eq 5, 3) := by decide +kernel
theorem dL_areRefused_63 : decode cL_areRefused 63 = .ok (.istore 4, 2) := by decide +kernel
theorem dL_areRefused_630 : decode cL_areRefused 630 = .ok (.aload_n 0, 1) := by decide +kernel
theorem dL_areRefused_631 : decode cL_areRefused 631 = .ok (.iconst 3, 1) := by decide +kernel
theorem dL_areRefused_632 : decode cL_areRefused 632 = .ok (.invokevirtual 105, 3) := by decide +kernel
theorem dL_areRefused_635 : decode cL_areRefused 635 = .ok (.istore 5, 2) := by decide +kernel
theorem dL_areRefused_637 : decode cL_areRefused 637 = .ok (.aload_n 0, 1) := by decide +kernel
theorem dL_areRefused_638 : decode cL_areRefused 638 = .ok (.ldc2_w 240, 3) := by decide +kernel
theorem dL_areRefused_641 : decode cL_areRefused 641 = .ok (.iconst 0, 1) := by decide +kernel
theorem dL_areRefused_642 : decode cL_areRefused 642 = .ok (.iconst 5, 1) := by decide +kernel
theorem dL_areRefused_643 : decode cL_areRefused 643 = .ok (.invokevirtual 39, 3) := by decide +kernel
theorem dL_areRefused_646 : decode cL_areRefused 646 = .ok (.lstore 6, 2) := by decide +kernel
theorem dL_areRefused_648 : decode cL_areRefused 648 = .ok (.lload 6, 2) := by decide +kernel
theorem dL_areRefused_65 : decode cL_areRefused 65 = .ok (.aload_n 0, 1) := by decide +kernel
theorem dL_areRefused_650 : decode cL_areRefused 650 = .ok (.ldc2_w 269, 3) := by decide +kernel
theorem dL_areRefused_653 : decode cL_areRefused 653 = .ok (.lcmp, 1) := by decide +kernel
theorem dL_areRefused_654 : decode cL_areRefused 654 = .ok (.ifCond .ne 121, 3) := by decide +kernel
theorem dL_areRefused_657 : decode cL_areRefused 657 = .ok (.aload_n 0, 1) := by decide +kernel
theorem dL_areRefused_658 : decode cL_areRefused 658 = .ok (.bipush 6, 2) := by decide +kernel
theorem dL_areRefused_66 : decode cL_areRefused 66 = .ok (.iconst 0, 1) := by decide +kernel
theorem dL_areRefused_660 : decode cL_areRefused 660 = .ok (.lconst 0, 1) := by decide +kernel
theorem dL_areRefused_661 : decode cL_areRefused 661 = .ok (.iconst 5, 1) := by decide +kernel
theorem dL_areRefused_662 : decode cL_areRefused 662 = .ok (.iconst 0, 1) := by decide +kernel
theorem dL_areRefused_663 : decode cL_areRefused 663 = .ok (.invokestatic 161, 3) := by decide +kernel
theorem dL_areRefused_666 : decode cL_areRefused 666 = .ok (.ldc2_w 127, 3) := by decide +kernel
theorem dL_areRefused_669 : decode cL_areRefused 669 = .ok (.lcmp, 1) := by decide +kernel
theorem dL_areRefused_67 : decode cL_areRefused 67 = .ok (.ldc2_w 255, 3) := by decide +kernel
theorem dL_areRefused_670 : decode cL_areRefused 670 = .ok (.ifCond .ne 105, 3) := by decide +kernel
theorem dL_areRefused_673 : decode cL_areRefused 673 = .ok (.aload_n 0, 1) := by decide +kernel
theorem dL_areRefused_674 : decode cL_areRefused 674 = .ok (.bipush 6, 2) := by decide +kernel
theorem dL_areRefused_676 : decode cL_areRefused 676 = .ok (.lconst 0, 1) := by decide +kernel
theorem dL_areRefused_677 : decode cL_areRefused 677 = .ok (.iconst 0, 1) := by decide +kernel
theorem dL_areRefused_678 : decode cL_areRefused 678 = .ok (.iconst 0, 1) := by decide +kernel
theorem dL_areRefused_679 : decode cL_areRefused 679 = .ok (.invokestatic 161, 3) := by decide +kernel
theorem dL_areRefused_682 : decode cL_areRefused 682 = .ok (.ldc2_w 127, 3) := by decide +kernel
theorem dL_areRefused_685 : decode cL_areRefused 685 = .ok (.lcmp, 1) := by decide +kernel
theorem dL_areRefused_686 : decode cL_areRefused 686 = .ok (.ifCond .ne 89, 3) := by decide +kernel
theorem dL_areRefused_689 : decode cL_areRefused 689 = .ok (.aload_n 0, 1) := by decide +kernel
theorem dL_areRefused_690 : decode cL_areRefused 690 = .ok (.bipush 7, 2) := by decide +kernel
theorem dL_areRefused_692 : decode cL_areRefused 692 = .ok (.lconst 0, 1) := by decide +kernel
theorem dL_areRefused_693 : decode cL_areRefused 693 = .ok (.iconst 1, 1) := by decide +kernel
theorem dL_areRefused_694 : decode cL_areRefused 694 = .ok (.iconst 5, 1) := by decide +kernel
theorem dL_areRefused_695 : decode cL_areRefused 695 = .ok (.invokestatic 161, 3) := by decide +kernel
theorem dL_areRefused_698 : decode cL_areRefused 698 = .ok (.ldc2_w 127, 3) := by decide +kernel
theorem dL_areRefused_70 : decode cL_areRefused 70 = .ok (.iconst 1, 1) := by decide +kernel
theorem dL_areRefused_701 : decode cL_areRefused 701 = .ok (.lcmp, 1) := by decide +kernel
theorem dL_areRefused_702 : decode cL_areRefused 702 = .ok (.ifCond .ne 73, 3) := by decide +kernel
theorem dL_areRefused_705 : decode cL_areRefused 705 = .ok (.aload_n 0, 1) := by decide +kernel
theorem dL_areRefused_706 : decode cL_areRefused 706 = .ok (.bipush 7, 2) := by decide +kernel
theorem dL_areRefused_708 : decode cL_areRefused 708 = .ok (.lconst 0, 1) := by decide +kernel
theorem dL_areRefused_709 : decode cL_areRefused 709 = .ok (.bipush 6, 2) := by decide +kernel
theorem dL_areRefused_71 : decode cL_areRefused 71 = .ok (.iconst 0, 1) := by decide +kernel
theorem dL_areRefused_711 : decode cL_areRefused 711 = .ok (.iconst 5, 1) := by decide +kernel
theorem dL_areRefused_712 : decode cL_areRefused 712 = .ok (.invokestatic 161, 3) := by decide +kernel
theorem dL_areRefused_715 : decode cL_areRefused 715 = .ok (.ldc2_w 127, 3) := by decide +kernel
theorem dL_areRefused_718 : decode cL_areRefused 718 = .ok (.lcmp, 1) := by decide +kernel
theorem dL_areRefused_719 : decode cL_areRefused 719 = .ok (.ifCond .ne 56, 3) := by decide +kernel
theorem dL_areRefused_72 : decode cL_areRefused 72 = .ok (.invokestatic 161, 3) := by decide +kernel
theorem dL_areRefused_722 : decode cL_areRefused 722 = .ok (.aload_n 0, 1) := by decide +kernel
theorem dL_areRefused_723 : decode cL_areRefused 723 = .ok (.bipush 7, 2) := by decide +kernel
theorem dL_areRefused_725 : decode cL_areRefused 725 = .ok (.lconst 0, 1) := by decide +kernel
theorem dL_areRefused_726 : decode cL_areRefused 726 = .ok (.iconst 2, 1) := by decide +kernel
theorem dL_areRefused_727 : decode cL_areRefused 727 = .ok (.iload_n 3, 1) := by decide +kernel
theorem dL_areRefused_728 : decode cL_areRefused 728 = .ok (.invokestatic 161, 3) := by decide +kernel
theorem dL_areRefused_731 : decode cL_areRefused 731 = .ok (.ldc2_w 127, 3) := by decide +kernel
theorem dL_areRefused_734 : decode cL_areRefused 734 = .ok (.lcmp, 1) := by decide +kernel
theorem dL_areRefused_735 : decode cL_areRefused 735 = .ok (.ifCond .ne 40, 3) := by decide +kernel
theorem dL_areRefused_738 : decode cL_areRefused 738 = .ok (.aload_n 0, 1) := by decide +kernel
theorem dL_areRefused_739 : decode cL_areRefused 739 = .ok (.bipush 8, 2) := by decide +kernel
theorem dL_areRefused_741 : decode cL_areRefused 741 = .ok (.ldc2_w 257, 3) := by decide +kernel
theorem dL_areRefused_744 : decode cL_areRefused 744 = .ok (.bipush 6, 2) := by decide +kernel
theorem dL_areRefused_746 : decode cL_areRefused 746 = .ok (.iconst 0, 1) := by decide +kernel
theorem dL_areRefused_747 : decode cL_areRefused 747 = .ok (.invokestatic 161, 3) := by decide +kernel
theorem dL_areRefused_75 : decode cL_areRefused 75 = .ok (.ldc2_w 127, 3) := by decide +kernel
theorem dL_areRefused_750 : decode cL_areRefused 750 = .ok (.ldc2_w 127, 3) := by decide +kernel
theorem dL_areRefused_753 : decode cL_areRefused 753 = .ok (.lcmp, 1) := by decide +kernel
theorem dL_areRefused_754 : decode cL_areRefused 754 = .ok (.ifCond .ne 21, 3) := by decide +kernel
theorem dL_areRefused_757 : decode cL_areRefused 757 = .ok (.aload_n 0, 1) := by decide +kernel
theorem dL_areRefused_758 : decode cL_areRefused 758 = .ok (.bipush 8, 2) := by decide +kernel
theorem dL_areRefused_760 : decode cL_areRefused 760 = .ok (.ldc2_w 191, 3) := by decide +kernel
theorem dL_areRefused_763 : decode cL_areRefused 763 = .ok (.iconst 2, 1) := by decide +kernel
theorem dL_areRefused_764 : decode cL_areRefused 764 = .ok (.iconst 0, 1) := by decide +kernel
theorem dL_areRefused_765 : decode cL_areRefused 765 = .ok (.invokestatic 161, 3) := by decide +kernel
theorem dL_areRefused_768 : decode cL_areRefused 768 = .ok (.ldc2_w 127, 3) := by decide +kernel
theorem dL_areRefused_771 : decode cL_areRefused 771 = .ok (.lcmp, 1) := by decide +kernel
theorem dL_areRefused_772 : decode cL_areRefused 772 = .ok (.ifCond .eq 5, 3) := by decide +kernel
theorem dL_areRefused_777 : decode cL_areRefused 777 = .ok (.aload_n 0, 1) := by decide +kernel
theorem dL_areRefused_778 : decode cL_areRefused 778 = .ok (.invokevirtual 236, 3) := by decide +kernel
theorem dL_areRefused_78 : decode cL_areRefused 78 = .ok (.lcmp, 1) := by decide +kernel
theorem dL_areRefused_781 : decode cL_areRefused 781 = .ok (.istore 4, 2) := by decide +kernel
theorem dL_areRefused_783 : decode cL_areRefused 783 = .ok (.aload_n 0, 1) := by decide +kernel
theorem dL_areRefused_784 : decode cL_areRefused 784 = .ok (.iconst 1, 1) := by decide +kernel
theorem dL_areRefused_785 : decode cL_areRefused 785 = .ok (.invokevirtual 83, 3) := by decide +kernel
theorem dL_areRefused_788 : decode cL_areRefused 788 = .ok (.bipush 12, 2) := by decide +kernel
theorem dL_areRefused_79 : decode cL_areRefused 79 = .ok (.ifCond .ne 216, 3) := by decide +kernel
theorem dL_areRefused_790 : decode cL_areRefused 790 = .ok (.if_icmp .ge 9, 3) := by decide +kernel
theorem dL_areRefused_793 : decode cL_areRefused 793 = .ok (.iinc 4 1, 3) := by decide +kernel
theorem dL_areRefused_796 : decode cL_areRefused 796 = .ok (.goto (-13), 3) := by decide +kernel
theorem dL_areRefused_799 : decode cL_areRefused 799 = .ok (.aload_n 0, 1) := by decide +kernel
theorem dL_areRefused_8 : decode cL_areRefused 8 = .ok (.bipush 41, 2) := by decide +kernel
theorem dL_areRefused_800 : decode cL_areRefused 800 = .ok (.bipush 17, 2) := by decide +kernel
theorem dL_areRefused_802 : decode cL_areRefused 802 = .ok (.lconst 0, 1) := by decide +kernel
theorem dL_areRefused_803 : decode cL_areRefused 803 = .ok (.iconst 1, 1) := by decide +kernel
theorem dL_areRefused_804 : decode cL_areRefused 804 = .ok (.iconst 0, 1) := by decide +kernel
theorem dL_areRefused_805 : decode cL_areRefused 805 = .ok (.invokestatic 161, 3) := by decide +kernel
theorem dL_areRefused_808 : decode cL_areRefused 808 = .ok (.ldc2_w 131, 3) := by decide +kernel
theorem dL_areRefused_811 : decode cL_areRefused 811 = .ok (.lcmp, 1) := by decide +kernel
theorem dL_areRefused_812 : decode cL_areRefused 812 = .ok (.ifCond .ne 30, 3) := by decide +kernel
theorem dL_areRefused_815 : decode cL_areRefused 815 = .ok (.aload_n 0, 1) := by decide +kernel
theorem dL_areRefused_816 : decode cL_areRefused 816 = .ok (.invokevirtual 236, 3) := by decide +kernel
theorem dL_areRefused_819 : decode cL_areRefused 819 = .ok (.bipush 12, 2) := by decide +kernel
theorem dL_areRefused_82 : decode cL_areRefused 82 = .ok (.aload_n 0, 1) := by decide +kernel
theorem dL_areRefused_821 : decode cL_areRefused 821 = .ok (.if_icmp .ne 21, 3) := by decide +kernel
theorem dL_areRefused_824 : decode cL_areRefused 824 = .ok (.aload_n 0, 1) := by decide +kernel
theorem dL_areRefused_825 : decode cL_areRefused 825 = .ok (.bipush 18, 2) := by decide +kernel
theorem dL_areRefused_827 : decode cL_areRefused 827 = .ok (.ldc2_w 257, 3) := by decide +kernel
theorem dL_areRefused_83 : decode cL_areRefused 83 = .ok (.iconst 0, 1) := by decide +kernel
theorem dL_areRefused_830 : decode cL_areRefused 830 = .ok (.iconst 0, 1) := by decide +kernel
theorem dL_areRefused_831 : decode cL_areRefused 831 = .ok (.iconst 0, 1) := by decide +kernel
theorem dL_areRefused_832 : decode cL_areRefused 832 = .ok (.invokestatic 161, 3) := by decide +kernel
theorem dL_areRefused_835 : decode cL_areRefused 835 = .ok (.ldc2_w 123, 3) := by decide +kernel
theorem dL_areRefused_838 : decode cL_areRefused 838 = .ok (.lcmp, 1) := by decide +kernel
theorem dL_areRefused_839 : decode cL_areRefused 839 = .ok (.ifCond .eq 5, 3) := by decide +kernel
theorem dL_areRefused_84 : decode cL_areRefused 84 = .ok (.lconst 1, 1) := by decide +kernel
theorem dL_areRefused_844 : decode cL_areRefused 844 = .ok (.aload_n 0, 1) := by decide +kernel
theorem dL_areRefused_845 : decode cL_areRefused 845 = .ok (.iload 5, 2) := by decide +kernel
theorem dL_areRefused_847 : decode cL_areRefused 847 = .ok (.invokevirtual 105, 3) := by decide +kernel
theorem dL_areRefused_85 : decode cL_areRefused 85 = .ok (.iconst 0, 1) := by decide +kernel
theorem dL_areRefused_850 : decode cL_areRefused 850 = .ok (.istore 5, 2) := by decide +kernel
theorem dL_areRefused_852 : decode cL_areRefused 852 = .ok (.iload 5, 2) := by decide +kernel
theorem dL_areRefused_854 : decode cL_areRefused 854 = .ok (.iconst 3, 1) := by decide +kernel
theorem dL_areRefused_855 : decode cL_areRefused 855 = .ok (.if_icmp .ne 7, 3) := by decide +kernel
theorem dL_areRefused_858 : decode cL_areRefused 858 = .ok (.iconst 1, 1) := by decide +kernel
theorem dL_areRefused_859 : decode cL_areRefused 859 = .ok (.goto 4, 3) := by decide +kernel
theorem dL_areRefused_86 : decode cL_areRefused 86 = .ok (.iconst 0, 1) := by decide +kernel
theorem dL_areRefused_863 : decode cL_areRefused 863 = .ok (.ireturn, 1) := by decide +kernel
theorem dL_areRefused_87 : decode cL_areRefused 87 = .ok (.invokestatic 161, 3) := by decide +kernel
theorem dL_areRefused_90 : decode cL_areRefused 90 = .ok (.ldc2_w 127, 3) := by decide +kernel
theorem dL_areRefused_93 : decode cL_areRefused 93 = .ok (.lcmp, 1) := by decide +kernel
theorem dL_areRefused_94 : decode cL_areRefused 94 = .ok (.ifCond .ne 201, 3) := by decide +kernel
theorem dL_areRefused_97 : decode cL_areRefused 97 = .ok (.aload_n 0, 1) := by decide +kernel
theorem dL_areRefused_98 : decode cL_areRefused 98 = .ok (.iconst 0, 1) := by decide +kernel
theorem dL_areRefused_99 : decode cL_areRefused 99 = .ok (.lconst 1, 1) := by decide +kernel
set_option maxRecDepth 20000 in
theorem gpL_areRefused_L_asks_wsL_asks_r1 : GoodIn wsL_areRefused wsL_asks_r1 := goodIn_r _ [44, 45, 46, 14, 2, 7, 47, 48, 49, 24, 50, 51, 52, 53, 54, 55, 56, 57, 58, 59, 60, 61, 62, 63] (by decide +kernel) (by decide +kernel)
theorem gpL_areRefused_L_asks_wsL_asks_r2 : GoodIn wsL_areRefused wsL_asks_r2 := goodIn_r _ [64, 65, 66, 67, 68, 69, 70, 71, 72, 73, 74, 75, 76, 77, 78, 79, 80, 81, 82, 83, 84, 85, 86, 87] (by decide +kernel) (by decide +kernel)
theorem gpL_areRefused_L_asks_wsL_asks_r3 : GoodIn wsL_areRefused wsL_asks_r3 := goodIn_r _ [88, 89, 90, 91, 92, 93, 94, 95, 96, 26, 97, 98, 99, 30, 100, 32, 101, 102, 103, 104, 105, 106, 107, 108] (by decide +kernel) (by decide +kernel)
theorem gpL_areRefused_L_asks_wsL_asks_r4 : GoodIn wsL_areRefused wsL_asks_r4 := goodIn_r _ [109, 110, 111, 112, 113, 27, 28, 29, 31, 114, 115, 116, 117, 118, 119, 120, 121, 122, 123, 124, 125, 126, 127, 128] (by decide +kernel) (by decide +kernel)
theorem gpL_areRefused_L_asks_wsL_asks_r5 : GoodIn wsL_areRefused wsL_asks_r5 := goodIn_r _ [129, 130, 131, 132, 133, 134, 135, 136, 137, 138, 139, 140, 141, 142, 143, 144, 145, 146, 147, 148, 149, 150, 151, 152] (by decide +kernel) (by decide +kernel)
theorem gpL_areRefused_L_asks_wsL_asks_r6 : GoodIn wsL_areRefused wsL_asks_r6 := goodIn_r _ [153, 154, 155, 156, 157, 158, 159, 160, 161, 162, 163, 164, 165, 166, 167, 168, 169, 170, 171, 172, 173, 174, 175, 176] (by decide +kernel) (by decide +kernel)
theorem gpL_areRefused_L_asks_wsL_asks_r7 : GoodIn wsL_areRefused wsL_asks_r7 := goodIn_r _ [177, 178, 179, 180, 181, 182, 183, 184, 185, 186, 187, 188, 39, 189, 190, 191, 192, 193, 194, 195, 196, 197, 198, 199] (by decide +kernel) (by decide +kernel)
theorem gpL_areRefused_L_asks_wsL_asks_r8 : GoodIn wsL_areRefused wsL_asks_r8 := goodIn_r _ [200, 201, 202, 203, 204, 205, 206, 207, 208, 209, 210, 211, 212, 213, 214, 215, 216, 217, 218, 219, 220, 221, 222, 223] (by decide +kernel) (by decide +kernel)
theorem gpL_areRefused_L_asks_wsL_asks_r9 : GoodIn wsL_areRefused wsL_asks_r9 := goodIn_r _ [224, 225, 226, 227, 228, 229, 230, 231, 232, 233, 234, 235, 236, 237, 238, 239, 240, 241, 242, 243, 244, 245, 246, 247] (by decide +kernel) (by decide +kernel)
theorem gpL_areRefused_L_asks_wsL_asks_r10 : GoodIn wsL_areRefused wsL_asks_r10 := goodIn_r _ [248, 249, 250, 251, 252, 253, 254, 255, 256, 257, 258, 259, 260, 261, 262, 263, 264, 265, 266, 267, 268, 269, 270, 271] (by decide +kernel) (by decide +kernel)
theorem gpL_areRefused_L_asks_wsL_asks_r11 : GoodIn wsL_areRefused wsL_asks_r11 := goodIn_r _ [272, 273, 274, 275, 276, 277, 278, 279, 280, 281, 282, 283, 284, 285, 286, 287, 288, 289, 290, 291, 292, 293, 294, 295] (by decide +kernel) (by decide +kernel)
theorem gpL_areRefused_L_asks_wsL_asks_r12 : GoodIn wsL_areRefused wsL_asks_r12 := goodIn_r _ [296, 297, 298, 299, 300, 301, 302, 303, 304, 305, 306, 307, 308, 309, 310, 311, 312, 313, 314, 315, 316, 317, 318, 319] (by decide +kernel) (by decide +kernel)
theorem gpL_areRefused_L_asks_wsL_asks_r13 : GoodIn wsL_areRefused wsL_asks_r13 := goodIn_r _ [320, 321, 322, 323, 324, 325, 326, 327, 328, 329, 330, 331, 332, 333, 334, 335, 336, 337, 338, 339, 340, 341, 342, 343] (by decide +kernel) (by decide +kernel)
theorem gpL_areRefused_L_asks_wsL_asks_r14 : GoodIn wsL_areRefused wsL_asks_r14 := goodIn_r _ [344, 345, 346, 347, 348, 349, 350, 351, 352, 353, 354, 355, 356, 357, 358, 359, 360, 361, 362, 363, 364, 365, 366, 367] (by decide +kernel) (by decide +kernel)
theorem gpL_areRefused_L_asks_wsL_asks_r15 : GoodIn wsL_areRefused wsL_asks_r15 := goodIn_r _ [368, 369, 370, 371, 372, 373, 374, 375, 376, 377, 378, 379, 380, 381, 382, 383, 384, 385, 386, 387, 388, 389, 390, 391] (by decide +kernel) (by decide +kernel)
theorem gpL_areRefused_L_asks_wsL_asks_r16 : GoodIn wsL_areRefused wsL_asks_r16 := goodIn_r _ [392, 393, 394, 395, 396, 397, 398, 399, 400, 401, 402, 403, 404, 405, 406, 407, 408, 409, 410, 411, 412, 413, 414, 415] (by decide +kernel) (by decide +kernel)
theorem gpL_areRefused_L_asks_wsL_asks_r17 : GoodIn wsL_areRefused wsL_asks_r17 := goodIn_r _ [416, 417, 418, 419, 420, 421, 422, 423, 424, 425, 426, 427, 428, 429, 430, 431, 432, 433, 434, 435, 436, 437, 438, 439] (by decide +kernel) (by decide +kernel)
theorem gpL_areRefused_L_asks_wsL_asks_r18 : GoodIn wsL_areRefused wsL_asks_r18 := goodIn_r _ [440, 441, 442, 443, 444, 445, 446, 447, 448, 449, 450, 451, 452, 453, 454, 455, 456, 457, 458, 459, 460, 461, 462, 463] (by decide +kernel) (by decide +kernel)
theorem gpL_areRefused_L_asks_wsL_asks_r19 : GoodIn wsL_areRefused wsL_asks_r19 := goodIn_r _ [464, 465, 466, 467, 468, 469, 470, 471, 472, 473, 474, 475, 476, 477, 478, 479, 480, 481, 482, 483, 484, 485, 486, 487] (by decide +kernel) (by decide +kernel)
theorem gpL_areRefused_L_asks_wsL_asks_r20 : GoodIn wsL_areRefused wsL_asks_r20 := goodIn_r _ [488, 489, 490, 491, 492, 493, 494, 495, 496, 497, 498, 499, 500, 501, 502, 503, 504, 505, 506, 507, 508, 509, 510, 511] (by decide +kernel) (by decide +kernel)
theorem gpL_areRefused_L_asks_wsL_asks_r21 : GoodIn wsL_areRefused wsL_asks_r21 := goodIn_r _ [512, 513, 514, 515, 516, 517, 518, 519, 520, 521, 522, 523, 524, 525, 526, 527, 528, 529, 530, 531, 532, 533, 534, 535] (by decide +kernel) (by decide +kernel)
theorem gpL_areRefused_L_asks_wsL_asks_r22 : GoodIn wsL_areRefused wsL_asks_r22 := goodIn_r _ [536, 537, 538, 539, 540, 541, 542, 543, 544, 545, 546, 547, 548, 549, 550, 551, 552, 553, 554, 555, 556, 557, 558, 559] (by decide +kernel) (by decide +kernel)
theorem gpL_areRefused_L_asks_wsL_asks_r23 : GoodIn wsL_areRefused wsL_asks_r23 := goodIn_r _ [560, 561, 562, 563, 564, 565, 566, 567, 568, 569, 570, 571, 572, 573, 574, 575, 576, 577, 578, 579, 580, 581, 582, 583] (by decide +kernel) (by decide +kernel)
theorem gpL_areRefused_L_asks_wsL_asks_r24 : GoodIn wsL_areRefused wsL_asks_r24 := goodIn_r _ [584] (by decide +kernel) (by decide +kernel)
theorem gpL_areRefused_L_asks_wsX90 : GoodIn wsL_areRefused wsX90 := goodIn_r _ [601, 602, 603, 604, 605, 606, 607, 608] (by decide +kernel) (by decide +kernel)
theorem gpL_areRefused_L_asks_wsX40 : GoodIn wsL_areRefused wsX40 := goodIn_r _ [612] (by decide +kernel) (by decide +kernel)
theorem gpL_areRefused_L_asks_wsX50 : GoodIn wsL_areRefused wsX50 := goodIn_r _ [609, 610, 611] (by decide +kernel) (by decide +kernel)
theorem gpL_areRefused_L_asks_wsX10 : GoodIn wsL_areRefused wsX10 := goodIn_r _ [613, 614, 615, 616, 617, 618] (by decide +kernel) (by decide +kernel)
theorem gpL_areRefused_L_asks_wsX80 : GoodIn wsL_areRefused wsX80 := goodIn_r _ [619, 620, 621] (by decide +kernel) (by decide +kernel)
theorem gpL_areRefused_L_asks_wsX30 : GoodIn wsL_areRefused wsX30 := goodIn_r _ [622, 623, 624, 625, 626, 627, 628, 629] (by decide +kernel) (by decide +kernel)
theorem gpL_areRefused_L_asks_wsX00 : GoodIn wsL_areRefused wsX00 := goodIn_r _ [630] (by decide +kernel) (by decide +kernel)
theorem gpL_areRefused_L_asks_wsX20 : GoodIn wsL_areRefused wsX20 := goodIn_r _ [631, 632, 633, 634] (by decide +kernel) (by decide +kernel)
theorem gpL_areRefused_L_asks_wsX60 : GoodIn wsL_areRefused wsX60 := goodIn_r _ [635, 636] (by decide +kernel) (by decide +kernel)
theorem gpL_areRefused_L_asks_wsX70 : GoodIn wsL_areRefused wsX70 := goodIn_r _ [637, 638, 639] (by decide +kernel) (by decide +kernel)
theorem ggL_areRefused_L_asks : GoodIn wsL_areRefused wsL_asks := goodIn_ca (goodIn_ca (goodIn_ca (goodIn_cons (goodIn_r [_] [43] (by decide +kernel) (by decide +kernel)) (goodIn_app (goodIn_app (goodIn_app (goodIn_app (goodIn_app (goodIn_app (goodIn_app (goodIn_app (goodIn_app (goodIn_app (goodIn_app gpL_areRefused_L_asks_wsL_asks_r1 (goodIn_app gpL_areRefused_L_asks_wsL_asks_r2 (goodIn_app gpL_areRefused_L_asks_wsL_asks_r3 (goodIn_app gpL_areRefused_L_asks_wsL_asks_r4 (goodIn_app gpL_areRefused_L_asks_wsL_asks_r5 (goodIn_app gpL_areRefused_L_asks_wsL_asks_r6 (goodIn_app gpL_areRefused_L_asks_wsL_asks_r7 (goodIn_app gpL_areRefused_L_asks_wsL_asks_r8 (goodIn_app gpL_areRefused_L_asks_wsL_asks_r9 (goodIn_app gpL_areRefused_L_asks_wsL_asks_r10 (goodIn_app gpL_areRefused_L_asks_wsL_asks_r11 (goodIn_app gpL_areRefused_L_asks_wsL_asks_r12 (goodIn_app gpL_areRefused_L_asks_wsL_asks_r13 (goodIn_app gpL_areRefused_L_asks_wsL_asks_r14 (goodIn_app gpL_areRefused_L_asks_wsL_asks_r15 (goodIn_app gpL_areRefused_L_asks_wsL_asks_r16 (goodIn_app gpL_areRefused_L_asks_wsL_asks_r17 (goodIn_app gpL_areRefused_L_asks_wsL_asks_r18 (goodIn_app gpL_areRefused_L_asks_wsL_asks_r19 (goodIn_app gpL_areRefused_L_asks_wsL_asks_r20 (goodIn_app gpL_areRefused_L_asks_wsL_asks_r21 (goodIn_app gpL_areRefused_L_asks_wsL_asks_r22 (goodIn_app gpL_areRefused_L_asks_wsL_asks_r23 (gpL_areRefused_L_asks_wsL_asks_r24)))))))))))))))))))))))) gpL_areRefused_L_asks_wsX90) gpL_areRefused_L_asks_wsX40) gpL_areRefused_L_asks_wsX50) gpL_areRefused_L_asks_wsX10) gpL_areRefused_L_asks_wsX80) gpL_areRefused_L_asks_wsX30) gpL_areRefused_L_asks_wsX00) gpL_areRefused_L_asks_wsX20) gpL_areRefused_L_asks_wsX60) gpL_areRefused_L_asks_wsX70)) (goodIn_sub (fun _ h => List.mem_cons_of_mem _ (List.mem_append_left _ (List.mem_append_left _ (List.mem_append_right _ h)))) (by decide +kernel))) (goodIn_sub (fun _ h => List.mem_cons_of_mem _ (List.mem_append_left _ (List.mem_append_right _ h))) (by decide +kernel))) (goodIn_sub (fun _ h => List.mem_cons_of_mem _ (List.mem_append_right _ h)) (by decide +kernel))
set_option maxRecDepth 20000 in
theorem gL_areRefused_L_asks : GoodIn wsL_areRefused (va_wsS RL 161 yL_asks wsL_asks) := goodIn_app (goodIn_of _ (by decide +kernel)) ggL_areRefused_L_asks
set_option maxRecDepth 20000 in
theorem ggL_areRefused_L_draw : GoodIn wsL_areRefused wsL_draw := goodIn_r _ [18, 19, 20] (by decide +kernel) (by decide +kernel)
set_option maxRecDepth 20000 in
theorem gL_areRefused_L_draw : GoodIn wsL_areRefused (va_wsS RL 13 yL_draw wsL_draw) := goodIn_app (goodIn_of _ (by decide +kernel)) ggL_areRefused_L_draw
set_option maxRecDepth 20000 in
theorem ggL_areRefused_X9_amount : GoodIn wsL_areRefused wsX9_amount := goodIn_ca (goodIn_r _ [564, 94, 26, 56, 57, 24, 58, 59, 60, 61, 62, 63, 103, 104, 105, 30, 106, 32, 601, 602, 603, 604, 605, 606, 607, 608, 609, 610, 611] (by decide +kernel) (by decide +kernel)) (goodIn_sub (fun _ h => List.mem_cons_of_mem _ (List.mem_append_left _ (List.mem_append_left _ (List.mem_append_right _ h)))) (by decide +kernel))
set_option maxRecDepth 20000 in
theorem gL_areRefused_X9_amount : GoodIn wsL_areRefused (wsV RL 108 RX9 yX9_amount wsX9_amount) := goodIn_app (goodIn_of _ (by decide +kernel)) ggL_areRefused_X9_amount
set_option maxRecDepth 20000 in
theorem ggL_areRefused_X9_clearRow : GoodIn wsL_areRefused wsX9_clearRow := goodIn_r _ [25, 26, 27, 28, 29, 30, 31, 32, 33, 34, 35, 36, 37, 38, 39, 40, 601, 602, 603, 604, 605, 606, 607, 608, 609, 610, 611] (by decide +kernel) (by decide +kernel)
set_option maxRecDepth 20000 in
theorem gL_areRefused_X9_clearRow : GoodIn wsL_areRefused (wsV RL 166 RX9 yX9_clearRow wsX9_clearRow) := goodIn_app (goodIn_of _ (by decide +kernel)) ggL_areRefused_X9_clearRow
set_option maxRecDepth 20000 in
theorem ggL_areRefused_X9_clearWeights : GoodIn wsL_areRefused wsX9_clearWeights := goodIn_r _ [596, 472, 597, 598, 599, 477, 600, 480, 601, 602, 603, 604, 605, 606, 607, 608, 635, 636] (by decide +kernel) (by decide +kernel)
set_option maxRecDepth 20000 in
theorem gL_areRefused_X9_clearWeights : GoodIn wsL_areRefused (wsV RL 236 RX9 yX9_clearWeights wsX9_clearWeights) := goodIn_app (goodIn_of _ (by decide +kernel)) ggL_areRefused_X9_clearWeights
set_option maxRecDepth 20000 in
theorem gpL_areRefused_X9_lend_wsX9_lend_r1 : GoodIn wsL_areRefused wsX9_lend_r1 := goodIn_r _ [96, 277, 278, 55, 279, 56, 57, 24, 58, 59, 60, 61, 62, 63, 118, 119, 120, 121, 280, 281, 282, 283, 284, 285] (by decide +kernel) (by decide +kernel)
theorem gpL_areRefused_X9_lend_wsX9_lend_r2 : GoodIn wsL_areRefused wsX9_lend_r2 := goodIn_r _ [286, 287, 288, 289, 290, 291, 292, 293, 294, 295, 296, 297, 298, 299, 300, 301, 302, 303, 141, 142, 143, 144, 145, 146] (by decide +kernel) (by decide +kernel)
theorem gpL_areRefused_X9_lend_wsX9_lend_r3 : GoodIn wsL_areRefused wsX9_lend_r3 := goodIn_r _ [147, 148, 149, 150, 151, 71, 152, 153, 154, 155, 156, 157, 158, 159, 160, 161, 162, 163, 164, 165, 166, 167, 168, 169] (by decide +kernel) (by decide +kernel)
theorem gpL_areRefused_X9_lend_wsX9_lend_r4 : GoodIn wsL_areRefused wsX9_lend_r4 := goodIn_r _ [170, 171, 172, 173, 174, 304, 176, 177, 178, 179, 180, 181, 182, 183, 184, 185, 186, 187, 188, 39, 189, 190, 191, 192] (by decide +kernel) (by decide +kernel)
theorem gpL_areRefused_X9_lend_wsX9_lend_r5 : GoodIn wsL_areRefused wsX9_lend_r5 := goodIn_r _ [193, 194, 195, 196, 197, 198, 199, 200, 201, 202, 203, 204, 205, 206, 207, 208, 127, 128, 305, 210, 211, 212, 213, 214] (by decide +kernel) (by decide +kernel)
theorem gpL_areRefused_X9_lend_wsX9_lend_r6 : GoodIn wsL_areRefused wsX9_lend_r6 := goodIn_r _ [215, 216, 217, 218, 306, 221, 222, 67, 223, 224, 89, 225, 226, 227, 228, 229, 230, 231, 232, 233, 234, 235, 236, 237] (by decide +kernel) (by decide +kernel)
theorem gpL_areRefused_X9_lend_wsX9_lend_r7 : GoodIn wsL_areRefused wsX9_lend_r7 := goodIn_r _ [238, 239, 240, 241, 242, 243, 244, 245, 246, 247, 248, 249, 73, 74, 75, 76, 77, 78, 79, 80, 81, 82, 83, 84] (by decide +kernel) (by decide +kernel)
theorem gpL_areRefused_X9_lend_wsX9_lend_r8 : GoodIn wsL_areRefused wsX9_lend_r8 := goodIn_r _ [85, 86, 87, 88, 307, 65, 66, 68, 69, 70, 72, 308, 309, 310, 311, 312, 313, 314, 315, 316, 317, 318, 319, 320] (by decide +kernel) (by decide +kernel)
theorem gpL_areRefused_X9_lend_wsX9_lend_r9 : GoodIn wsL_areRefused wsX9_lend_r9 := goodIn_r _ [321, 322] (by decide +kernel) (by decide +kernel)
theorem gpL_areRefused_X9_lend_wsX90 : GoodIn wsL_areRefused wsX90 := goodIn_r _ [601, 602, 603, 604, 605, 606, 607, 608] (by decide +kernel) (by decide +kernel)
theorem gpL_areRefused_X9_lend_wsX30 : GoodIn wsL_areRefused wsX30 := goodIn_r _ [622, 623, 624, 625, 626, 627, 628, 629] (by decide +kernel) (by decide +kernel)
theorem gpL_areRefused_X9_lend_wsX10 : GoodIn wsL_areRefused wsX10 := goodIn_r _ [613, 614, 615, 616, 617, 618] (by decide +kernel) (by decide +kernel)
theorem gpL_areRefused_X9_lend_wsX80 : GoodIn wsL_areRefused wsX80 := goodIn_r _ [619, 620, 621] (by decide +kernel) (by decide +kernel)
theorem gpL_areRefused_X9_lend_wsX40 : GoodIn wsL_areRefused wsX40 := goodIn_r _ [612] (by decide +kernel) (by decide +kernel)
theorem ggL_areRefused_X9_lend : GoodIn wsL_areRefused wsX9_lend := goodIn_ca (goodIn_ca (goodIn_cons (goodIn_r [_] [276] (by decide +kernel) (by decide +kernel)) (goodIn_app (goodIn_app (goodIn_app (goodIn_app (goodIn_app (goodIn_app gpL_areRefused_X9_lend_wsX9_lend_r1 (goodIn_app gpL_areRefused_X9_lend_wsX9_lend_r2 (goodIn_app gpL_areRefused_X9_lend_wsX9_lend_r3 (goodIn_app gpL_areRefused_X9_lend_wsX9_lend_r4 (goodIn_app gpL_areRefused_X9_lend_wsX9_lend_r5 (goodIn_app gpL_areRefused_X9_lend_wsX9_lend_r6 (goodIn_app gpL_areRefused_X9_lend_wsX9_lend_r7 (goodIn_app gpL_areRefused_X9_lend_wsX9_lend_r8 (gpL_areRefused_X9_lend_wsX9_lend_r9))))))))) gpL_areRefused_X9_lend_wsX90) gpL_areRefused_X9_lend_wsX30) gpL_areRefused_X9_lend_wsX10) gpL_areRefused_X9_lend_wsX80) gpL_areRefused_X9_lend_wsX40)) (goodIn_sub (fun _ h => List.mem_cons_of_mem _ (List.mem_append_left _ (List.mem_append_left _ (List.mem_append_right _ h)))) (by decide +kernel))) (goodIn_sub (fun _ h => List.mem_cons_of_mem _ (List.mem_append_left _ (List.mem_append_right _ h))) (by decide +kernel))
set_option maxRecDepth 20000 in
theorem gL_areRefused_X9_lend : GoodIn wsL_areRefused (wsV RL 39 RX9 yX9_lend wsX9_lend) := goodIn_app (goodIn_of _ (by decide +kernel)) ggL_areRefused_X9_lend
set_option maxRecDepth 20000 in
theorem ggL_areRefused_X9_meanAmount : GoodIn wsL_areRefused wsX9_meanAmount := goodIn_r _ [588, 26, 27, 28, 29, 30, 31, 32, 589, 590, 591, 592, 601, 602, 603, 604, 605, 606, 607, 608, 609, 610, 611] (by decide +kernel) (by decide +kernel)
set_option maxRecDepth 20000 in
theorem gL_areRefused_X9_meanAmount : GoodIn wsL_areRefused (wsV RL 263 RX9 yX9_meanAmount wsX9_meanAmount) := goodIn_app (goodIn_of _ (by decide +kernel)) ggL_areRefused_X9_meanAmount
set_option maxRecDepth 20000 in
theorem ggL_areRefused_X9_setMode : GoodIn wsL_areRefused wsX9_setMode := goodIn_ca (goodIn_r _ [558, 559, 55, 560, 56, 57, 24, 58, 59, 60, 61, 62, 63, 601, 602, 603, 604, 605, 606, 607, 608, 612] (by decide +kernel) (by decide +kernel)) (goodIn_sub (fun _ h => List.mem_cons_of_mem _ (List.mem_append_left _ (List.mem_append_left _ (List.mem_append_right _ h)))) (by decide +kernel))
set_option maxRecDepth 20000 in
theorem gL_areRefused_X9_setMode : GoodIn wsL_areRefused (wsV RL 105 RX9 yX9_setMode wsX9_setMode) := goodIn_app (goodIn_of _ (by decide +kernel)) ggL_areRefused_X9_setMode
set_option maxRecDepth 20000 in
theorem ggL_areRefused_X9_weigh : GoodIn wsL_areRefused wsX9_weigh := goodIn_ca (goodIn_ca (goodIn_r _ [471, 113, 472, 473, 56, 57, 24, 58, 59, 60, 61, 62, 63, 258, 81, 82, 83, 84, 474, 475, 476, 477, 478, 479, 480, 601, 602, 603, 604, 605, 606, 607, 608, 635, 636] (by decide +kernel) (by decide +kernel)) (goodIn_sub (fun _ h => List.mem_cons_of_mem _ (List.mem_append_left _ (List.mem_append_left _ (List.mem_append_right _ h)))) (by decide +kernel))) (goodIn_sub (fun _ h => List.mem_cons_of_mem _ (List.mem_append_left _ (List.mem_append_right _ h))) (by decide +kernel))
set_option maxRecDepth 20000 in
theorem gL_areRefused_X9_weigh : GoodIn wsL_areRefused (wsV RL 83 RX9 yX9_weigh wsX9_weigh) := goodIn_app (goodIn_of _ (by decide +kernel)) ggL_areRefused_X9_weigh
