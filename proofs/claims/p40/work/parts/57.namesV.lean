-- printed rows that the walks use
theorem dL_isYield_0 : decode cL_isYield 0 = .ok (.bipush 41, 2) := by decide +kernel
theorem dL_isYield_100 : decode cL_isYield 100 = .ok (.i2l, 1) := by decide +kernel
theorem dL_isYield_101 : decode cL_isYield 101 = .ok (.lmul, 1) := by decide +kernel
theorem dL_isYield_102 : decode cL_isYield 102 = .ok (.lastore, 1) := by decide +kernel
theorem dL_isYield_103 : decode cL_isYield 103 = .ok (.aload_n 1, 1) := by decide +kernel
theorem dL_isYield_104 : decode cL_isYield 104 = .ok (.bipush 12, 2) := by decide +kernel
theorem dL_isYield_106 : decode cL_isYield 106 = .ok (.invokestatic 13, 3) := by decide +kernel
theorem dL_isYield_109 : decode cL_isYield 109 = .ok (.ifCond .ne 12, 3) := by decide +kernel
theorem dL_isYield_112 : decode cL_isYield 112 = .ok (.aload_n 2, 1) := by decide +kernel
theorem dL_isYield_113 : decode cL_isYield 113 = .ok (.iload 6, 2) := by decide +kernel
theorem dL_isYield_115 : decode cL_isYield 115 = .ok (.aload_n 2, 1) := by decide +kernel
theorem dL_isYield_116 : decode cL_isYield 116 = .ok (.iload 6, 2) := by decide +kernel
theorem dL_isYield_118 : decode cL_isYield 118 = .ok (.laload, 1) := by decide +kernel
theorem dL_isYield_119 : decode cL_isYield 119 = .ok (.lneg, 1) := by decide +kernel
theorem dL_isYield_12 : decode cL_isYield 12 = .ok (.iadd, 1) := by decide +kernel
theorem dL_isYield_120 : decode cL_isYield 120 = .ok (.lastore, 1) := by decide +kernel
theorem dL_isYield_121 : decode cL_isYield 121 = .ok (.iinc 6 1, 3) := by decide +kernel
theorem dL_isYield_124 : decode cL_isYield 124 = .ok (.goto (-89), 3) := by decide +kernel
theorem dL_isYield_127 : decode cL_isYield 127 = .ok (.iconst 0, 1) := by decide +kernel
theorem dL_isYield_128 : decode cL_isYield 128 = .ok (.istore 6, 2) := by decide +kernel
theorem dL_isYield_13 : decode cL_isYield 13 = .ok (.istore_n 3, 1) := by decide +kernel
theorem dL_isYield_130 : decode cL_isYield 130 = .ok (.iconst 0, 1) := by decide +kernel
theorem dL_isYield_131 : decode cL_isYield 131 = .ok (.istore 7, 2) := by decide +kernel
theorem dL_isYield_133 : decode cL_isYield 133 = .ok (.iconst 0, 1) := by decide +kernel
theorem dL_isYield_134 : decode cL_isYield 134 = .ok (.istore 8, 2) := by decide +kernel
theorem dL_isYield_136 : decode cL_isYield 136 = .ok (.aload_n 2, 1) := by decide +kernel
theorem dL_isYield_137 : decode cL_isYield 137 = .ok (.astore 9, 2) := by decide +kernel
theorem dL_isYield_139 : decode cL_isYield 139 = .ok (.aload 9, 2) := by decide +kernel
theorem dL_isYield_14 : decode cL_isYield 14 = .ok (.aload_n 1, 1) := by decide +kernel
theorem dL_isYield_141 : decode cL_isYield 141 = .ok (.arraylength, 1) := by decide +kernel
theorem dL_isYield_142 : decode cL_isYield 142 = .ok (.istore 10, 2) := by decide +kernel
theorem dL_isYield_144 : decode cL_isYield 144 = .ok (.iconst 0, 1) := by decide +kernel
theorem dL_isYield_145 : decode cL_isYield 145 = .ok (.istore 11, 2) := by decide +kernel
theorem dL_isYield_147 : decode cL_isYield 147 = .ok (.iload 11, 2) := by decide +kernel
theorem dL_isYield_149 : decode cL_isYield 149 = .ok (.iload 10, 2) := by decide +kernel
theorem dL_isYield_15 : decode cL_isYield 15 = .ok (.iconst 2, 1) := by decide +kernel
theorem dL_isYield_151 : decode cL_isYield 151 = .ok (.if_icmp .ge 93, 3) := by decide +kernel
theorem dL_isYield_154 : decode cL_isYield 154 = .ok (.aload 9, 2) := by decide +kernel
theorem dL_isYield_156 : decode cL_isYield 156 = .ok (.iload 11, 2) := by decide +kernel
theorem dL_isYield_158 : decode cL_isYield 158 = .ok (.laload, 1) := by decide +kernel
theorem dL_isYield_159 : decode cL_isYield 159 = .ok (.lstore 12, 2) := by decide +kernel
theorem dL_isYield_16 : decode cL_isYield 16 = .ok (.invokestatic 13, 3) := by decide +kernel
theorem dL_isYield_161 : decode cL_isYield 161 = .ok (.lload 12, 2) := by decide +kernel
theorem dL_isYield_163 : decode cL_isYield 163 = .ok (.invokestatic 181, 3) := by decide +kernel
theorem dL_isYield_166 : decode cL_isYield 166 = .ok (.istore 14, 2) := by decide +kernel
theorem dL_isYield_168 : decode cL_isYield 168 = .ok (.iload 5, 2) := by decide +kernel
theorem dL_isYield_170 : decode cL_isYield 170 = .ok (.iload 14, 2) := by decide +kernel
theorem dL_isYield_172 : decode cL_isYield 172 = .ok (.ifCond .eq 7, 3) := by decide +kernel
theorem dL_isYield_175 : decode cL_isYield 175 = .ok (.iconst 1, 1) := by decide +kernel
theorem dL_isYield_176 : decode cL_isYield 176 = .ok (.goto 4, 3) := by decide +kernel
theorem dL_isYield_179 : decode cL_isYield 179 = .ok (.iconst 0, 1) := by decide +kernel
theorem dL_isYield_180 : decode cL_isYield 180 = .ok (.iadd, 1) := by decide +kernel
theorem dL_isYield_181 : decode cL_isYield 181 = .ok (.istore 5, 2) := by decide +kernel
theorem dL_isYield_183 : decode cL_isYield 183 = .ok (.iload 6, 2) := by decide +kernel
theorem dL_isYield_185 : decode cL_isYield 185 = .ok (.iload 14, 2) := by decide +kernel
theorem dL_isYield_187 : decode cL_isYield 187 = .ok (.ifCond .eq 19, 3) := by decide +kernel
theorem dL_isYield_19 : decode cL_isYield 19 = .ok (.ifCond .ne 7, 3) := by decide +kernel
theorem dL_isYield_190 : decode cL_isYield 190 = .ok (.iload 7, 2) := by decide +kernel
theorem dL_isYield_192 : decode cL_isYield 192 = .ok (.ifCond .eq 14, 3) := by decide +kernel
theorem dL_isYield_195 : decode cL_isYield 195 = .ok (.iload 14, 2) := by decide +kernel
theorem dL_isYield_197 : decode cL_isYield 197 = .ok (.iload 7, 2) := by decide +kernel
theorem dL_isYield_199 : decode cL_isYield 199 = .ok (.if_icmp .eq 7, 3) := by decide +kernel
theorem dL_isYield_2 : decode cL_isYield 2 = .ok (.newarray .long, 2) := by decide +kernel
theorem dL_isYield_202 : decode cL_isYield 202 = .ok (.iconst 1, 1) := by decide +kernel
theorem dL_isYield_203 : decode cL_isYield 203 = .ok (.goto 4, 3) := by decide +kernel
theorem dL_isYield_206 : decode cL_isYield 206 = .ok (.iconst 0, 1) := by decide +kernel
theorem dL_isYield_207 : decode cL_isYield 207 = .ok (.iadd, 1) := by decide +kernel
theorem dL_isYield_208 : decode cL_isYield 208 = .ok (.istore 6, 2) := by decide +kernel
theorem dL_isYield_210 : decode cL_isYield 210 = .ok (.iload 14, 2) := by decide +kernel
theorem dL_isYield_212 : decode cL_isYield 212 = .ok (.ifCond .eq 8, 3) := by decide +kernel
theorem dL_isYield_215 : decode cL_isYield 215 = .ok (.iload 14, 2) := by decide +kernel
theorem dL_isYield_217 : decode cL_isYield 217 = .ok (.goto 5, 3) := by decide +kernel
theorem dL_isYield_22 : decode cL_isYield 22 = .ok (.iconst 1, 1) := by decide +kernel
theorem dL_isYield_220 : decode cL_isYield 220 = .ok (.iload 7, 2) := by decide +kernel
theorem dL_isYield_222 : decode cL_isYield 222 = .ok (.istore 7, 2) := by decide +kernel
theorem dL_isYield_224 : decode cL_isYield 224 = .ok (.iload 8, 2) := by decide +kernel
theorem dL_isYield_226 : decode cL_isYield 226 = .ok (.ifCond .ne 8, 3) := by decide +kernel
theorem dL_isYield_229 : decode cL_isYield 229 = .ok (.iload 14, 2) := by decide +kernel
theorem dL_isYield_23 : decode cL_isYield 23 = .ok (.goto 4, 3) := by decide +kernel
theorem dL_isYield_231 : decode cL_isYield 231 = .ok (.goto 5, 3) := by decide +kernel
theorem dL_isYield_234 : decode cL_isYield 234 = .ok (.iload 8, 2) := by decide +kernel
theorem dL_isYield_236 : decode cL_isYield 236 = .ok (.istore 8, 2) := by decide +kernel
theorem dL_isYield_238 : decode cL_isYield 238 = .ok (.iinc 11 1, 3) := by decide +kernel
theorem dL_isYield_241 : decode cL_isYield 241 = .ok (.goto (-94), 3) := by decide +kernel
theorem dL_isYield_244 : decode cL_isYield 244 = .ok (.aload_n 0, 1) := by decide +kernel
theorem dL_isYield_245 : decode cL_isYield 245 = .ok (.aload_n 2, 1) := by decide +kernel
theorem dL_isYield_246 : decode cL_isYield 246 = .ok (.invokestatic 170, 3) := by decide +kernel
theorem dL_isYield_249 : decode cL_isYield 249 = .ok (.aload_n 0, 1) := by decide +kernel
theorem dL_isYield_250 : decode cL_isYield 250 = .ok (.invokevirtual 193, 3) := by decide +kernel
theorem dL_isYield_253 : decode cL_isYield 253 = .ok (.iload 6, 2) := by decide +kernel
theorem dL_isYield_255 : decode cL_isYield 255 = .ok (.if_icmp .ne 34, 3) := by decide +kernel
theorem dL_isYield_258 : decode cL_isYield 258 = .ok (.aload_n 0, 1) := by decide +kernel
theorem dL_isYield_259 : decode cL_isYield 259 = .ok (.invokevirtual 166, 3) := by decide +kernel
theorem dL_isYield_26 : decode cL_isYield 26 = .ok (.iconst 0, 1) := by decide +kernel
theorem dL_isYield_262 : decode cL_isYield 262 = .ok (.iload 5, 2) := by decide +kernel
theorem dL_isYield_264 : decode cL_isYield 264 = .ok (.if_icmp .ne 25, 3) := by decide +kernel
theorem dL_isYield_267 : decode cL_isYield 267 = .ok (.aload_n 0, 1) := by decide +kernel
theorem dL_isYield_268 : decode cL_isYield 268 = .ok (.invokevirtual 193, 3) := by decide +kernel
theorem dL_isYield_27 : decode cL_isYield 27 = .ok (.istore 4, 2) := by decide +kernel
theorem dL_isYield_271 : decode cL_isYield 271 = .ok (.ifCond .ne 18, 3) := by decide +kernel
theorem dL_isYield_274 : decode cL_isYield 274 = .ok (.aload_n 0, 1) := by decide +kernel
theorem dL_isYield_275 : decode cL_isYield 275 = .ok (.iconst 4, 1) := by decide +kernel
theorem dL_isYield_276 : decode cL_isYield 276 = .ok (.lconst 0, 1) := by decide +kernel
theorem dL_isYield_277 : decode cL_isYield 277 = .ok (.iconst 0, 1) := by decide +kernel
theorem dL_isYield_278 : decode cL_isYield 278 = .ok (.iconst 0, 1) := by decide +kernel
theorem dL_isYield_279 : decode cL_isYield 279 = .ok (.invokestatic 161, 3) := by decide +kernel
theorem dL_isYield_282 : decode cL_isYield 282 = .ok (.ldc2_w 131, 3) := by decide +kernel
theorem dL_isYield_285 : decode cL_isYield 285 = .ok (.lcmp, 1) := by decide +kernel
theorem dL_isYield_286 : decode cL_isYield 286 = .ok (.ifCond .eq 5, 3) := by decide +kernel
theorem dL_isYield_29 : decode cL_isYield 29 = .ok (.iconst 0, 1) := by decide +kernel
theorem dL_isYield_291 : decode cL_isYield 291 = .ok (.aload_n 0, 1) := by decide +kernel
theorem dL_isYield_292 : decode cL_isYield 292 = .ok (.aload_n 2, 1) := by decide +kernel
theorem dL_isYield_293 : decode cL_isYield 293 = .ok (.invokestatic 170, 3) := by decide +kernel
theorem dL_isYield_296 : decode cL_isYield 296 = .ok (.aload_n 0, 1) := by decide +kernel
theorem dL_isYield_297 : decode cL_isYield 297 = .ok (.iconst 4, 1) := by decide +kernel
theorem dL_isYield_298 : decode cL_isYield 298 = .ok (.lconst 0, 1) := by decide +kernel
theorem dL_isYield_299 : decode cL_isYield 299 = .ok (.iconst 0, 1) := by decide +kernel
theorem dL_isYield_30 : decode cL_isYield 30 = .ok (.istore 5, 2) := by decide +kernel
theorem dL_isYield_300 : decode cL_isYield 300 = .ok (.iconst 0, 1) := by decide +kernel
theorem dL_isYield_301 : decode cL_isYield 301 = .ok (.invokestatic 161, 3) := by decide +kernel
theorem dL_isYield_304 : decode cL_isYield 304 = .ok (.lstore 9, 2) := by decide +kernel
theorem dL_isYield_306 : decode cL_isYield 306 = .ok (.iload 6, 2) := by decide +kernel
theorem dL_isYield_308 : decode cL_isYield 308 = .ok (.iconst 1, 1) := by decide +kernel
theorem dL_isYield_309 : decode cL_isYield 309 = .ok (.if_icmp .eq 18, 3) := by decide +kernel
theorem dL_isYield_312 : decode cL_isYield 312 = .ok (.lload 9, 2) := by decide +kernel
theorem dL_isYield_314 : decode cL_isYield 314 = .ok (.ldc2_w 131, 3) := by decide +kernel
theorem dL_isYield_317 : decode cL_isYield 317 = .ok (.lcmp, 1) := by decide +kernel
theorem dL_isYield_318 : decode cL_isYield 318 = .ok (.ifCond .ne 7, 3) := by decide +kernel
theorem dL_isYield_32 : decode cL_isYield 32 = .ok (.iconst 0, 1) := by decide +kernel
theorem dL_isYield_321 : decode cL_isYield 321 = .ok (.iconst 1, 1) := by decide +kernel
theorem dL_isYield_322 : decode cL_isYield 322 = .ok (.goto 4, 3) := by decide +kernel
theorem dL_isYield_326 : decode cL_isYield 326 = .ok (.ireturn, 1) := by decide +kernel
theorem dL_isYield_327 : decode cL_isYield 327 = .ok (.lload 9, 2) := by decide +kernel
theorem dL_isYield_329 : decode cL_isYield 329 = .ok (.ldc2_w 191, 3) := by decide +kernel
theorem dL_isYield_33 : decode cL_isYield 33 = .ok (.istore 6, 2) := by decide +kernel
theorem dL_isYield_332 : decode cL_isYield 332 = .ok (.lcmp, 1) := by decide +kernel
theorem dL_isYield_333 : decode cL_isYield 333 = .ok (.ifCond .ne 22, 3) := by decide +kernel
theorem dL_isYield_336 : decode cL_isYield 336 = .ok (.aload_n 0, 1) := by decide +kernel
theorem dL_isYield_337 : decode cL_isYield 337 = .ok (.sipush 20000, 3) := by decide +kernel
theorem dL_isYield_340 : decode cL_isYield 340 = .ok (.invokevirtual 118, 3) := by decide +kernel
theorem dL_isYield_343 : decode cL_isYield 343 = .ok (.iload 8, 2) := by decide +kernel
theorem dL_isYield_345 : decode cL_isYield 345 = .ok (.ineg, 1) := by decide +kernel
theorem dL_isYield_346 : decode cL_isYield 346 = .ok (.if_icmp .ne 7, 3) := by decide +kernel
theorem dL_isYield_349 : decode cL_isYield 349 = .ok (.iconst 1, 1) := by decide +kernel
theorem dL_isYield_35 : decode cL_isYield 35 = .ok (.iload 6, 2) := by decide +kernel
theorem dL_isYield_350 : decode cL_isYield 350 = .ok (.goto 4, 3) := by decide +kernel
theorem dL_isYield_354 : decode cL_isYield 354 = .ok (.ireturn, 1) := by decide +kernel
theorem dL_isYield_355 : decode cL_isYield 355 = .ok (.lload 9, 2) := by decide +kernel
theorem dL_isYield_357 : decode cL_isYield 357 = .ok (.l2i, 1) := by decide +kernel
theorem dL_isYield_358 : decode cL_isYield 358 = .ok (.istore 11, 2) := by decide +kernel
theorem dL_isYield_360 : decode cL_isYield 360 = .ok (.aload_n 0, 1) := by decide +kernel
theorem dL_isYield_361 : decode cL_isYield 361 = .ok (.iload 11, 2) := by decide +kernel
theorem dL_isYield_363 : decode cL_isYield 363 = .ok (.invokevirtual 118, 3) := by decide +kernel
theorem dL_isYield_366 : decode cL_isYield 366 = .ok (.ifCond .eq 14, 3) := by decide +kernel
theorem dL_isYield_369 : decode cL_isYield 369 = .ok (.aload_n 0, 1) := by decide +kernel
theorem dL_isYield_37 : decode cL_isYield 37 = .ok (.bipush 41, 2) := by decide +kernel
theorem dL_isYield_370 : decode cL_isYield 370 = .ok (.iload 11, 2) := by decide +kernel
theorem dL_isYield_372 : decode cL_isYield 372 = .ok (.invokevirtual 118, 3) := by decide +kernel
theorem dL_isYield_375 : decode cL_isYield 375 = .ok (.iload 8, 2) := by decide +kernel
theorem dL_isYield_377 : decode cL_isYield 377 = .ok (.if_icmp .ne 35, 3) := by decide +kernel
theorem dL_isYield_380 : decode cL_isYield 380 = .ok (.iload 11, 2) := by decide +kernel
theorem dL_isYield_382 : decode cL_isYield 382 = .ok (.ifCond .eq 17, 3) := by decide +kernel
theorem dL_isYield_385 : decode cL_isYield 385 = .ok (.aload_n 0, 1) := by decide +kernel
theorem dL_isYield_386 : decode cL_isYield 386 = .ok (.iload 11, 2) := by decide +kernel
theorem dL_isYield_388 : decode cL_isYield 388 = .ok (.iconst 1, 1) := by decide +kernel
theorem dL_isYield_389 : decode cL_isYield 389 = .ok (.isub, 1) := by decide +kernel
theorem dL_isYield_39 : decode cL_isYield 39 = .ok (.if_icmp .ge 88, 3) := by decide +kernel
theorem dL_isYield_390 : decode cL_isYield 390 = .ok (.invokevirtual 118, 3) := by decide +kernel
theorem dL_isYield_393 : decode cL_isYield 393 = .ok (.iload 8, 2) := by decide +kernel
theorem dL_isYield_395 : decode cL_isYield 395 = .ok (.ineg, 1) := by decide +kernel
theorem dL_isYield_396 : decode cL_isYield 396 = .ok (.if_icmp .ne 16, 3) := by decide +kernel
theorem dL_isYield_399 : decode cL_isYield 399 = .ok (.aload_n 0, 1) := by decide +kernel
theorem dL_isYield_4 : decode cL_isYield 4 = .ok (.astore_n 2, 1) := by decide +kernel
theorem dL_isYield_400 : decode cL_isYield 400 = .ok (.iload 11, 2) := by decide +kernel
theorem dL_isYield_402 : decode cL_isYield 402 = .ok (.invokevirtual 196, 3) := by decide +kernel
theorem dL_isYield_405 : decode cL_isYield 405 = .ok (.ifCond .ne 7, 3) := by decide +kernel
theorem dL_isYield_408 : decode cL_isYield 408 = .ok (.iconst 1, 1) := by decide +kernel
theorem dL_isYield_409 : decode cL_isYield 409 = .ok (.goto 4, 3) := by decide +kernel
theorem dL_isYield_413 : decode cL_isYield 413 = .ok (.ireturn, 1) := by decide +kernel
theorem dL_isYield_42 : decode cL_isYield 42 = .ok (.aload_n 1, 1) := by decide +kernel
theorem dL_isYield_43 : decode cL_isYield 43 = .ok (.iconst 3, 1) := by decide +kernel
theorem dL_isYield_44 : decode cL_isYield 44 = .ok (.invokestatic 13, 3) := by decide +kernel
theorem dL_isYield_47 : decode cL_isYield 47 = .ok (.ifCond .ne 6, 3) := by decide +kernel
theorem dL_isYield_5 : decode cL_isYield 5 = .ok (.iconst 1, 1) := by decide +kernel
theorem dL_isYield_50 : decode cL_isYield 50 = .ok (.goto 71, 3) := by decide +kernel
theorem dL_isYield_53 : decode cL_isYield 53 = .ok (.aload_n 2, 1) := by decide +kernel
theorem dL_isYield_54 : decode cL_isYield 54 = .ok (.iload 6, 2) := by decide +kernel
theorem dL_isYield_56 : decode cL_isYield 56 = .ok (.iload 6, 2) := by decide +kernel
theorem dL_isYield_58 : decode cL_isYield 58 = .ok (.iload_n 3, 1) := by decide +kernel
theorem dL_isYield_59 : decode cL_isYield 59 = .ok (.if_icmp .ge 7, 3) := by decide +kernel
theorem dL_isYield_6 : decode cL_isYield 6 = .ok (.aload_n 1, 1) := by decide +kernel
theorem dL_isYield_62 : decode cL_isYield 62 = .ok (.iconst 1, 1) := by decide +kernel
theorem dL_isYield_63 : decode cL_isYield 63 = .ok (.goto 4, 3) := by decide +kernel
theorem dL_isYield_66 : decode cL_isYield 66 = .ok (.iconst 0, 1) := by decide +kernel
theorem dL_isYield_67 : decode cL_isYield 67 = .ok (.iload 4, 2) := by decide +kernel
theorem dL_isYield_69 : decode cL_isYield 69 = .ok (.if_icmp .ne 9, 3) := by decide +kernel
theorem dL_isYield_7 : decode cL_isYield 7 = .ok (.bipush 39, 2) := by decide +kernel
theorem dL_isYield_72 : decode cL_isYield 72 = .ok (.ldc2_w 191, 3) := by decide +kernel
theorem dL_isYield_75 : decode cL_isYield 75 = .ok (.goto 4, 3) := by decide +kernel
theorem dL_isYield_78 : decode cL_isYield 78 = .ok (.lconst 1, 1) := by decide +kernel
theorem dL_isYield_79 : decode cL_isYield 79 = .ok (.iconst 1, 1) := by decide +kernel
theorem dL_isYield_80 : decode cL_isYield 80 = .ok (.aload_n 1, 1) := by decide +kernel
theorem dL_isYield_81 : decode cL_isYield 81 = .ok (.iload 6, 2) := by decide +kernel
theorem dL_isYield_83 : decode cL_isYield 83 = .ok (.iload_n 3, 1) := by decide +kernel
theorem dL_isYield_84 : decode cL_isYield 84 = .ok (.if_icmp .ge 9, 3) := by decide +kernel
theorem dL_isYield_87 : decode cL_isYield 87 = .ok (.sipush 20000, 3) := by decide +kernel
theorem dL_isYield_9 : decode cL_isYield 9 = .ok (.invokestatic 13, 3) := by decide +kernel
theorem dL_isYield_90 : decode cL_isYield 90 = .ok (.goto 6, 3) := by decide +kernel
theorem dL_isYield_93 : decode cL_isYield 93 = .ok (.sipush 6000, 3) := by decide +kernel
theorem dL_isYield_96 : decode cL_isYield 96 = .ok (.invokestatic 13, 3) := by decide +kernel
theorem dL_isYield_99 : decode cL_isYield 99 = .ok (.iadd, 1) := by decide +kernel
set_option maxRecDepth 20000 in
theorem ggL_isYield_J13_signum_95d88 : GoodIn wsL_isYield wsJ13_signum_95d88 := goodIn_r _ [13] (by decide +kernel) (by decide +kernel)
set_option maxRecDepth 20000 in
theorem gL_isYield_J13_signum_95d88 : GoodIn wsL_isYield (va_wsS RL 181 yJ13_signum_95d88 wsJ13_signum_95d88) := goodIn_app (goodIn_of _ (by decide +kernel)) ggL_isYield_J13_signum_95d88
set_option maxRecDepth 20000 in
theorem gpL_isYield_L_asks_wsL_asks_r1 : GoodIn wsL_isYield wsL_asks_r1 := goodIn_r _ [77, 78, 79, 80, 81, 3, 82, 83, 84, 20, 85, 86, 87, 88, 89, 90, 44, 45, 46, 47, 48, 49, 50, 51] (by decide +kernel) (by decide +kernel)
theorem gpL_isYield_L_asks_wsL_asks_r2 : GoodIn wsL_isYield wsL_asks_r2 := goodIn_r _ [91, 92, 93, 94, 95, 96, 97, 98, 99, 100, 101, 102, 103, 104, 105, 106, 107, 58, 59, 60, 61, 108, 109, 110] (by decide +kernel) (by decide +kernel)
theorem gpL_isYield_L_asks_wsL_asks_r3 : GoodIn wsL_isYield wsL_asks_r3 := goodIn_r _ [111, 112, 37, 38, 39, 40, 41, 42, 43, 22, 52, 53, 54, 26, 55, 28, 56, 57, 62, 63, 64, 65, 113, 114] (by decide +kernel) (by decide +kernel)
theorem gpL_isYield_L_asks_wsL_asks_r4 : GoodIn wsL_isYield wsL_asks_r4 := goodIn_r _ [115, 116, 117, 118, 119, 23, 24, 25, 27, 120, 121, 122, 123, 124, 125, 126, 127, 128, 129, 130, 131, 132, 133, 134] (by decide +kernel) (by decide +kernel)
theorem gpL_isYield_L_asks_wsL_asks_r5 : GoodIn wsL_isYield wsL_asks_r5 := goodIn_r _ [135, 136, 137, 138, 139, 140, 141, 142, 143, 144, 145, 146, 147, 148, 149, 150, 151, 152, 153, 154, 155, 156, 157, 158] (by decide +kernel) (by decide +kernel)
theorem gpL_isYield_L_asks_wsL_asks_r6 : GoodIn wsL_isYield wsL_asks_r6 := goodIn_r _ [159, 160, 161, 162, 163, 164, 165, 166, 167, 168, 169, 170, 171, 172, 173, 174, 175, 176, 177, 178, 179, 180, 181, 182] (by decide +kernel) (by decide +kernel)
theorem gpL_isYield_L_asks_wsL_asks_r7 : GoodIn wsL_isYield wsL_asks_r7 := goodIn_r _ [183, 184, 185, 186, 187, 188, 189, 190, 191, 192, 193, 194, 35, 195, 196, 197, 198, 199, 200, 201, 1, 202, 203, 204] (by decide +kernel) (by decide +kernel)
theorem gpL_isYield_L_asks_wsL_asks_r8 : GoodIn wsL_isYield wsL_asks_r8 := goodIn_r _ [205, 206, 207, 208, 209, 210, 211, 212, 213, 214, 215, 216, 217, 218, 219, 220, 221, 222, 223, 224, 225, 226, 227, 228] (by decide +kernel) (by decide +kernel)
theorem gpL_isYield_L_asks_wsL_asks_r9 : GoodIn wsL_isYield wsL_asks_r9 := goodIn_r _ [229, 230, 231, 232, 233, 234, 235, 236, 237, 238, 239, 240, 241, 242, 243, 244, 245, 246, 247, 248, 249, 250, 251, 252] (by decide +kernel) (by decide +kernel)
theorem gpL_isYield_L_asks_wsL_asks_r10 : GoodIn wsL_isYield wsL_asks_r10 := goodIn_r _ [253, 254, 255, 256, 257, 258, 70, 71, 72, 73, 259, 260, 261, 262, 263, 264, 265, 266, 267, 268, 269, 270, 271, 272] (by decide +kernel) (by decide +kernel)
theorem gpL_isYield_L_asks_wsL_asks_r11 : GoodIn wsL_isYield wsL_asks_r11 := goodIn_r _ [273, 274, 275, 276, 277, 278, 279, 280, 281, 282, 283, 284, 285, 286, 287, 288, 289, 290, 291, 292, 293, 294, 295, 296] (by decide +kernel) (by decide +kernel)
theorem gpL_isYield_L_asks_wsL_asks_r12 : GoodIn wsL_isYield wsL_asks_r12 := goodIn_r _ [297, 298, 299, 300, 301, 302, 303, 304, 305, 306, 307, 308, 309, 310, 311, 312, 313, 314, 315, 316, 317, 318, 319, 320] (by decide +kernel) (by decide +kernel)
theorem gpL_isYield_L_asks_wsL_asks_r13 : GoodIn wsL_isYield wsL_asks_r13 := goodIn_r _ [321, 322, 323, 324, 325, 326, 327, 328, 329, 330, 331, 332, 333, 334, 335, 336, 337, 338, 339, 340, 341, 342, 343, 344] (by decide +kernel) (by decide +kernel)
theorem gpL_isYield_L_asks_wsL_asks_r14 : GoodIn wsL_isYield wsL_asks_r14 := goodIn_r _ [345, 346, 347, 348, 349, 350, 351, 352, 353, 354, 355, 356, 357, 358, 359, 360, 361, 362, 363, 364, 365, 366, 367, 368] (by decide +kernel) (by decide +kernel)
theorem gpL_isYield_L_asks_wsL_asks_r15 : GoodIn wsL_isYield wsL_asks_r15 := goodIn_r _ [369, 370, 371, 372, 373, 374, 375, 376, 377, 378, 379, 380, 381, 382, 383, 384, 385, 386, 387, 388, 389, 390, 391, 392] (by decide +kernel) (by decide +kernel)
theorem gpL_isYield_L_asks_wsL_asks_r16 : GoodIn wsL_isYield wsL_asks_r16 := goodIn_r _ [393, 394, 395, 396, 397, 398, 399, 400, 401, 402, 403, 404, 405, 406, 407, 408, 409, 410, 411, 412, 413, 414, 415, 416] (by decide +kernel) (by decide +kernel)
theorem gpL_isYield_L_asks_wsL_asks_r17 : GoodIn wsL_isYield wsL_asks_r17 := goodIn_r _ [417, 418, 419, 420, 421, 422, 423, 424, 425, 426, 427, 428, 429, 430, 431, 432, 433, 434, 435, 436, 437, 438, 439, 440] (by decide +kernel) (by decide +kernel)
theorem gpL_isYield_L_asks_wsL_asks_r18 : GoodIn wsL_isYield wsL_asks_r18 := goodIn_r _ [441, 442, 443, 444, 445, 446, 447, 448, 449, 450, 451, 452, 453, 454, 455, 456, 457, 458, 459, 460, 461, 462, 463, 464] (by decide +kernel) (by decide +kernel)
theorem gpL_isYield_L_asks_wsL_asks_r19 : GoodIn wsL_isYield wsL_asks_r19 := goodIn_r _ [465, 466, 467, 468, 469, 470, 471, 472, 473, 474, 475, 476, 477, 478, 479, 480, 481, 482, 483, 484, 485, 486, 487, 488] (by decide +kernel) (by decide +kernel)
theorem gpL_isYield_L_asks_wsL_asks_r20 : GoodIn wsL_isYield wsL_asks_r20 := goodIn_r _ [489, 490, 491, 492, 493, 494, 495, 496, 497, 498, 499, 500, 501, 502, 503, 504, 505, 506, 507, 508, 509, 510, 511, 512] (by decide +kernel) (by decide +kernel)
theorem gpL_isYield_L_asks_wsL_asks_r21 : GoodIn wsL_isYield wsL_asks_r21 := goodIn_r _ [513, 514, 515, 516, 517, 518, 519, 520, 521, 522, 523, 524, 525, 526, 527, 528, 529, 530, 531, 532, 533, 534, 535, 536] (by decide +kernel) (by decide +kernel)
theorem gpL_isYield_L_asks_wsL_asks_r22 : GoodIn wsL_isYield wsL_asks_r22 := goodIn_r _ [537, 538, 539, 540, 541, 542, 543, 544, 545, 546, 547, 548, 549, 550, 551, 552, 553, 554, 555, 556, 557, 558, 559, 560] (by decide +kernel) (by decide +kernel)
theorem gpL_isYield_L_asks_wsL_asks_r23 : GoodIn wsL_isYield wsL_asks_r23 := goodIn_r _ [561, 562, 563, 564, 565, 566, 567, 568, 569, 570, 571, 572, 573, 574, 575, 576, 577, 578, 579, 580, 581, 582, 583, 584] (by decide +kernel) (by decide +kernel)
theorem gpL_isYield_L_asks_wsL_asks_r24 : GoodIn wsL_isYield wsL_asks_r24 := goodIn_r _ [585] (by decide +kernel) (by decide +kernel)
theorem gpL_isYield_L_asks_wsX90 : GoodIn wsL_isYield wsX90 := goodIn_r _ [618, 619, 620, 621, 622, 623, 624, 625] (by decide +kernel) (by decide +kernel)
theorem gpL_isYield_L_asks_wsX40 : GoodIn wsL_isYield wsX40 := goodIn_r _ [629] (by decide +kernel) (by decide +kernel)
theorem gpL_isYield_L_asks_wsX50 : GoodIn wsL_isYield wsX50 := goodIn_r _ [626, 627, 628] (by decide +kernel) (by decide +kernel)
theorem gpL_isYield_L_asks_wsX10 : GoodIn wsL_isYield wsX10 := goodIn_r _ [630, 631, 632, 633, 634, 635] (by decide +kernel) (by decide +kernel)
theorem gpL_isYield_L_asks_wsX80 : GoodIn wsL_isYield wsX80 := goodIn_r _ [636, 637, 638] (by decide +kernel) (by decide +kernel)
theorem gpL_isYield_L_asks_wsX30 : GoodIn wsL_isYield wsX30 := goodIn_r _ [639, 640, 641, 642, 643, 644, 645, 646] (by decide +kernel) (by decide +kernel)
theorem gpL_isYield_L_asks_wsX00 : GoodIn wsL_isYield wsX00 := goodIn_r _ [647] (by decide +kernel) (by decide +kernel)
theorem gpL_isYield_L_asks_wsX20 : GoodIn wsL_isYield wsX20 := goodIn_r _ [648, 649, 650, 651] (by decide +kernel) (by decide +kernel)
theorem gpL_isYield_L_asks_wsX60 : GoodIn wsL_isYield wsX60 := goodIn_r _ [652, 653] (by decide +kernel) (by decide +kernel)
theorem gpL_isYield_L_asks_wsX70 : GoodIn wsL_isYield wsX70 := goodIn_r _ [654, 655, 656] (by decide +kernel) (by decide +kernel)
theorem ggL_isYield_L_asks : GoodIn wsL_isYield wsL_asks := goodIn_ca (goodIn_ca (goodIn_ca (goodIn_cons (goodIn_r [_] [76] (by decide +kernel) (by decide +kernel)) (goodIn_app (goodIn_app (goodIn_app (goodIn_app (goodIn_app (goodIn_app (goodIn_app (goodIn_app (goodIn_app (goodIn_app (goodIn_app gpL_isYield_L_asks_wsL_asks_r1 (goodIn_app gpL_isYield_L_asks_wsL_asks_r2 (goodIn_app gpL_isYield_L_asks_wsL_asks_r3 (goodIn_app gpL_isYield_L_asks_wsL_asks_r4 (goodIn_app gpL_isYield_L_asks_wsL_asks_r5 (goodIn_app gpL_isYield_L_asks_wsL_asks_r6 (goodIn_app gpL_isYield_L_asks_wsL_asks_r7 (goodIn_app gpL_isYield_L_asks_wsL_asks_r8 (goodIn_app gpL_isYield_L_asks_wsL_asks_r9 (goodIn_app gpL_isYield_L_asks_wsL_asks_r10 (goodIn_app gpL_isYield_L_asks_wsL_asks_r11 (goodIn_app gpL_isYield_L_asks_wsL_asks_r12 (goodIn_app gpL_isYield_L_asks_wsL_asks_r13 (goodIn_app gpL_isYield_L_asks_wsL_asks_r14 (goodIn_app gpL_isYield_L_asks_wsL_asks_r15 (goodIn_app gpL_isYield_L_asks_wsL_asks_r16 (goodIn_app gpL_isYield_L_asks_wsL_asks_r17 (goodIn_app gpL_isYield_L_asks_wsL_asks_r18 (goodIn_app gpL_isYield_L_asks_wsL_asks_r19 (goodIn_app gpL_isYield_L_asks_wsL_asks_r20 (goodIn_app gpL_isYield_L_asks_wsL_asks_r21 (goodIn_app gpL_isYield_L_asks_wsL_asks_r22 (goodIn_app gpL_isYield_L_asks_wsL_asks_r23 (gpL_isYield_L_asks_wsL_asks_r24)))))))))))))))))))))))) gpL_isYield_L_asks_wsX90) gpL_isYield_L_asks_wsX40) gpL_isYield_L_asks_wsX50) gpL_isYield_L_asks_wsX10) gpL_isYield_L_asks_wsX80) gpL_isYield_L_asks_wsX30) gpL_isYield_L_asks_wsX00) gpL_isYield_L_asks_wsX20) gpL_isYield_L_asks_wsX60) gpL_isYield_L_asks_wsX70)) (goodIn_sub (fun _ h => List.mem_cons_of_mem _ (List.mem_append_left _ (List.mem_append_left _ (List.mem_append_right _ h)))) (by decide +kernel))) (goodIn_sub (fun _ h => List.mem_cons_of_mem _ (List.mem_append_left _ (List.mem_append_right _ h))) (by decide +kernel))) (goodIn_sub (fun _ h => List.mem_cons_of_mem _ (List.mem_append_right _ h)) (by decide +kernel))
set_option maxRecDepth 20000 in
theorem gL_isYield_L_asks : GoodIn wsL_isYield (va_wsS RL 161 yL_asks wsL_asks) := goodIn_app (goodIn_of _ (by decide +kernel)) ggL_isYield_L_asks
set_option maxRecDepth 20000 in
theorem ggL_isYield_L_draw : GoodIn wsL_isYield wsL_draw := goodIn_r _ [7, 8, 9] (by decide +kernel) (by decide +kernel)
set_option maxRecDepth 20000 in
theorem gL_isYield_L_draw : GoodIn wsL_isYield (va_wsS RL 13 yL_draw wsL_draw) := goodIn_app (goodIn_of _ (by decide +kernel)) ggL_isYield_L_draw
set_option maxRecDepth 20000 in
theorem ggL_isYield_L_rows : GoodIn wsL_isYield wsL_rows := goodIn_ca (goodIn_ca (goodIn_r _ [16, 17, 18, 19, 20, 21, 22, 23, 24, 25, 26, 27, 28, 29, 30, 31, 32, 33, 34, 35, 36, 37, 38, 39, 40, 41, 42, 43, 44, 45, 46, 47, 48, 49, 50, 51, 52, 53, 54, 55, 56, 57, 58, 59, 60, 61, 62, 63, 64, 65, 618, 619, 620, 621, 622, 623, 624, 625, 626, 627, 628] (by decide +kernel) (by decide +kernel)) (goodIn_sub (fun _ h => List.mem_cons_of_mem _ (List.mem_append_left _ (List.mem_append_left _ (List.mem_append_right _ h)))) (by decide +kernel))) (goodIn_sub (fun _ h => List.mem_cons_of_mem _ (List.mem_append_left _ (List.mem_append_right _ h))) (by decide +kernel))
set_option maxRecDepth 20000 in
theorem gL_isYield_L_rows : GoodIn wsL_isYield (va_wsS RL 170 yL_rows wsL_rows) := goodIn_app (goodIn_of _ (by decide +kernel)) ggL_isYield_L_rows
set_option maxRecDepth 20000 in
theorem ggL_isYield_X9_changes : GoodIn wsL_isYield wsX9_changes := goodIn_r _ [69, 22, 70, 71, 72, 26, 73, 28, 618, 619, 620, 621, 622, 623, 624, 625, 626, 627, 628] (by decide +kernel) (by decide +kernel)
set_option maxRecDepth 20000 in
theorem gL_isYield_X9_changes : GoodIn wsL_isYield (wsV RL 193 RX9 yX9_changes wsX9_changes) := goodIn_app (goodIn_of _ (by decide +kernel)) ggL_isYield_X9_changes
set_option maxRecDepth 20000 in
theorem ggL_isYield_X9_clearRow : GoodIn wsL_isYield wsX9_clearRow := goodIn_r _ [21, 22, 23, 24, 25, 26, 27, 28, 29, 30, 31, 32, 33, 34, 35, 36, 618, 619, 620, 621, 622, 623, 624, 625, 626, 627, 628] (by decide +kernel) (by decide +kernel)
set_option maxRecDepth 20000 in
theorem gL_isYield_X9_clearRow : GoodIn wsL_isYield (wsV RL 166 RX9 yX9_clearRow wsX9_clearRow) := goodIn_app (goodIn_of _ (by decide +kernel)) ggL_isYield_X9_clearRow
set_option maxRecDepth 20000 in
theorem gpL_isYield_X9_errors_wsX9_errors_r1 : GoodIn wsL_isYield wsX9_errors_r1 := goodIn_r _ [22, 280, 409, 473, 590, 124, 125, 20, 126, 127, 44, 45, 46, 47, 48, 49, 50, 51, 591, 592, 593, 26, 594, 595] (by decide +kernel) (by decide +kernel)
theorem gpL_isYield_X9_errors_wsX9_errors_r2 : GoodIn wsL_isYield wsX9_errors_r2 := goodIn_r _ [28, 137, 135, 596, 142, 143, 144, 145, 146, 147, 148, 149, 150, 151, 152, 153, 154, 155, 156, 157, 98, 158, 159, 160] (by decide +kernel) (by decide +kernel)
theorem gpL_isYield_X9_errors_wsX9_errors_r3 : GoodIn wsL_isYield wsX9_errors_r3 := goodIn_r _ [161, 162, 163, 164, 165, 166, 167, 168, 169, 170, 171, 172, 173, 174, 175, 176, 177, 178, 179, 180, 181, 182, 183, 184] (by decide +kernel) (by decide +kernel)
theorem gpL_isYield_X9_errors_wsX9_errors_r4 : GoodIn wsL_isYield wsX9_errors_r4 := goodIn_r _ [185, 186, 187, 188, 189, 190, 191, 192, 193, 194, 35, 195, 196, 197, 198, 199, 200, 201, 1, 202, 203, 204, 205, 206] (by decide +kernel) (by decide +kernel)
theorem gpL_isYield_X9_errors_wsX9_errors_r5 : GoodIn wsL_isYield wsX9_errors_r5 := goodIn_r _ [207, 208, 209, 210, 211, 212, 213, 133, 134, 597, 598, 599, 600, 601, 273, 231, 232, 233, 602, 603, 604, 284, 605, 286] (by decide +kernel) (by decide +kernel)
theorem gpL_isYield_X9_errors_wsX9_errors_r6 : GoodIn wsL_isYield wsX9_errors_r6 := goodIn_r _ [606, 374, 375, 376, 295, 297, 607, 608, 609, 414, 610, 416, 435, 467, 436, 468, 611, 418, 437, 574, 455, 456, 457, 458] (by decide +kernel) (by decide +kernel)
theorem gpL_isYield_X9_errors_wsX9_errors_r7 : GoodIn wsL_isYield wsX9_errors_r7 := goodIn_r _ [442, 443, 438, 439, 440, 441, 576, 445, 215, 216, 217, 218, 219, 220, 221, 222, 223, 612, 613, 614, 615, 478, 616, 481] (by decide +kernel) (by decide +kernel)
theorem gpL_isYield_X9_errors_wsX9_errors_r8 : GoodIn wsL_isYield wsX9_errors_r8 := goodIn_r _ [494, 487, 488, 489, 480, 617, 491, 492, 493] (by decide +kernel) (by decide +kernel)
theorem gpL_isYield_X9_errors_wsX90 : GoodIn wsL_isYield wsX90 := goodIn_r _ [618, 619, 620, 621, 622, 623, 624, 625] (by decide +kernel) (by decide +kernel)
theorem gpL_isYield_X9_errors_wsX50 : GoodIn wsL_isYield wsX50 := goodIn_r _ [626, 627, 628] (by decide +kernel) (by decide +kernel)
theorem gpL_isYield_X9_errors_wsX10 : GoodIn wsL_isYield wsX10 := goodIn_r _ [630, 631, 632, 633, 634, 635] (by decide +kernel) (by decide +kernel)
theorem gpL_isYield_X9_errors_wsX80 : GoodIn wsL_isYield wsX80 := goodIn_r _ [636, 637, 638] (by decide +kernel) (by decide +kernel)
theorem gpL_isYield_X9_errors_wsX30 : GoodIn wsL_isYield wsX30 := goodIn_r _ [639, 640, 641, 642, 643, 644, 645, 646] (by decide +kernel) (by decide +kernel)
theorem gpL_isYield_X9_errors_wsX20 : GoodIn wsL_isYield wsX20 := goodIn_r _ [648, 649, 650, 651] (by decide +kernel) (by decide +kernel)
theorem gpL_isYield_X9_errors_wsX60 : GoodIn wsL_isYield wsX60 := goodIn_r _ [652, 653] (by decide +kernel) (by decide +kernel)
theorem ggL_isYield_X9_errors : GoodIn wsL_isYield wsX9_errors := goodIn_ca (goodIn_cons (goodIn_r [_] [589] (by decide +kernel) (by decide +kernel)) (goodIn_app (goodIn_app (goodIn_app (goodIn_app (goodIn_app (goodIn_app (goodIn_app (goodIn_app gpL_isYield_X9_errors_wsX9_errors_r1 (goodIn_app gpL_isYield_X9_errors_wsX9_errors_r2 (goodIn_app gpL_isYield_X9_errors_wsX9_errors_r3 (goodIn_app gpL_isYield_X9_errors_wsX9_errors_r4 (goodIn_app gpL_isYield_X9_errors_wsX9_errors_r5 (goodIn_app gpL_isYield_X9_errors_wsX9_errors_r6 (goodIn_app gpL_isYield_X9_errors_wsX9_errors_r7 (gpL_isYield_X9_errors_wsX9_errors_r8)))))))) gpL_isYield_X9_errors_wsX90) gpL_isYield_X9_errors_wsX50) gpL_isYield_X9_errors_wsX10) gpL_isYield_X9_errors_wsX80) gpL_isYield_X9_errors_wsX30) gpL_isYield_X9_errors_wsX20) gpL_isYield_X9_errors_wsX60)) (goodIn_sub (fun _ h => List.mem_cons_of_mem _ (List.mem_append_left _ (List.mem_append_left _ (List.mem_append_right _ h)))) (by decide +kernel))
set_option maxRecDepth 20000 in
theorem gL_isYield_X9_errors : GoodIn wsL_isYield (wsV RL 196 RX9 yX9_errors wsX9_errors) := goodIn_app (goodIn_of _ (by decide +kernel)) ggL_isYield_X9_errors
set_option maxRecDepth 20000 in
theorem ggL_isYield_X9_signAt : GoodIn wsL_isYield wsX9_signAt := goodIn_ca (goodIn_r _ [584, 22, 124, 125, 20, 126, 127, 44, 45, 46, 47, 48, 49, 50, 51, 585, 270, 271, 26, 272, 135, 137, 138, 139, 140, 141, 28, 142, 143, 144, 145, 146, 147, 148, 149, 150, 151, 152, 153, 154, 155, 156, 157, 98, 158, 159, 160, 161, 162, 163, 164, 165, 166, 167, 168, 169, 170, 171, 172, 173, 174, 175, 176, 177, 178, 179, 180, 181, 182, 183, 184, 185, 186, 187, 188, 189, 190, 191, 192, 193, 194, 35, 195, 196, 197, 198, 199, 200, 201, 1, 202, 203, 204, 205, 206, 207, 208, 209, 210, 211, 212, 213, 133, 134, 273, 231, 232, 233, 618, 619, 620, 621, 622, 623, 624, 625, 626, 627, 628, 630, 631, 632, 633, 634, 635, 636, 637, 638] (by decide +kernel) (by decide +kernel)) (goodIn_sub (fun _ h => List.mem_cons_of_mem _ (List.mem_append_left _ (List.mem_append_left _ (List.mem_append_right _ h)))) (by decide +kernel))
set_option maxRecDepth 20000 in
theorem gL_isYield_X9_signAt : GoodIn wsL_isYield (wsV RL 118 RX9 yX9_signAt wsX9_signAt) := goodIn_app (goodIn_of _ (by decide +kernel)) ggL_isYield_X9_signAt
