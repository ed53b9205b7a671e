-- printed rows that the walks use
theorem dL_isParted_0 : decode cL_isParted 0 = .ok (.aload_n 0, 1) := by decide +kernel
theorem dL_isParted_1 : decode cL_isParted 1 = .ok (.invokevirtual 236, 3) := by decide +kernel
theorem dL_isParted_100 : decode cL_isParted 100 = .ok (.iload 7, 2) := by decide +kernel
theorem dL_isParted_102 : decode cL_isParted 102 = .ok (.laload, 1) := by decide +kernel
theorem dL_isParted_103 : decode cL_isParted 103 = .ok (.ladd, 1) := by decide +kernel
theorem dL_isParted_104 : decode cL_isParted 104 = .ok (.lstore 5, 2) := by decide +kernel
theorem dL_isParted_106 : decode cL_isParted 106 = .ok (.iinc 7 1, 3) := by decide +kernel
theorem dL_isParted_109 : decode cL_isParted 109 = .ok (.goto (-84), 3) := by decide +kernel
theorem dL_isParted_112 : decode cL_isParted 112 = .ok (.aload_n 1, 1) := by decide +kernel
theorem dL_isParted_113 : decode cL_isParted 113 = .ok (.iconst 3, 1) := by decide +kernel
theorem dL_isParted_114 : decode cL_isParted 114 = .ok (.invokestatic 13, 3) := by decide +kernel
theorem dL_isParted_117 : decode cL_isParted 117 = .ok (.ifCond .ne 17, 3) := by decide +kernel
theorem dL_isParted_12 : decode cL_isParted 12 = .ok (.iadd, 1) := by decide +kernel
theorem dL_isParted_120 : decode cL_isParted 120 = .ok (.aload_n 1, 1) := by decide +kernel
theorem dL_isParted_121 : decode cL_isParted 121 = .ok (.ldc 239, 2) := by decide +kernel
theorem dL_isParted_123 : decode cL_isParted 123 = .ok (.invokestatic 13, 3) := by decide +kernel
theorem dL_isParted_126 : decode cL_isParted 126 = .ok (.i2l, 1) := by decide +kernel
theorem dL_isParted_127 : decode cL_isParted 127 = .ok (.ldc2_w 240, 3) := by decide +kernel
theorem dL_isParted_13 : decode cL_isParted 13 = .ok (.istore_n 3, 1) := by decide +kernel
theorem dL_isParted_130 : decode cL_isParted 130 = .ok (.lmul, 1) := by decide +kernel
theorem dL_isParted_131 : decode cL_isParted 131 = .ok (.goto 11, 3) := by decide +kernel
theorem dL_isParted_134 : decode cL_isParted 134 = .ok (.aload_n 1, 1) := by decide +kernel
theorem dL_isParted_135 : decode cL_isParted 135 = .ok (.sipush 1000, 3) := by decide +kernel
theorem dL_isParted_138 : decode cL_isParted 138 = .ok (.invokestatic 13, 3) := by decide +kernel
theorem dL_isParted_14 : decode cL_isParted 14 = .ok (.iload_n 3, 1) := by decide +kernel
theorem dL_isParted_141 : decode cL_isParted 141 = .ok (.i2l, 1) := by decide +kernel
theorem dL_isParted_142 : decode cL_isParted 142 = .ok (.lstore 7, 2) := by decide +kernel
theorem dL_isParted_144 : decode cL_isParted 144 = .ok (.aload_n 0, 1) := by decide +kernel
theorem dL_isParted_145 : decode cL_isParted 145 = .ok (.bipush 18, 2) := by decide +kernel
theorem dL_isParted_147 : decode cL_isParted 147 = .ok (.lload 7, 2) := by decide +kernel
theorem dL_isParted_149 : decode cL_isParted 149 = .ok (.iload_n 3, 1) := by decide +kernel
theorem dL_isParted_15 : decode cL_isParted 15 = .ok (.newarray .long, 2) := by decide +kernel
theorem dL_isParted_150 : decode cL_isParted 150 = .ok (.iconst 0, 1) := by decide +kernel
theorem dL_isParted_151 : decode cL_isParted 151 = .ok (.invokestatic 161, 3) := by decide +kernel
theorem dL_isParted_154 : decode cL_isParted 154 = .ok (.ldc2_w 123, 3) := by decide +kernel
theorem dL_isParted_157 : decode cL_isParted 157 = .ok (.lcmp, 1) := by decide +kernel
theorem dL_isParted_158 : decode cL_isParted 158 = .ok (.ifCond .ne 21, 3) := by decide +kernel
theorem dL_isParted_161 : decode cL_isParted 161 = .ok (.aload_n 0, 1) := by decide +kernel
theorem dL_isParted_162 : decode cL_isParted 162 = .ok (.bipush 18, 2) := by decide +kernel
theorem dL_isParted_164 : decode cL_isParted 164 = .ok (.ldc2_w 191, 3) := by decide +kernel
theorem dL_isParted_167 : decode cL_isParted 167 = .ok (.iload_n 3, 1) := by decide +kernel
theorem dL_isParted_168 : decode cL_isParted 168 = .ok (.iconst 0, 1) := by decide +kernel
theorem dL_isParted_169 : decode cL_isParted 169 = .ok (.invokestatic 161, 3) := by decide +kernel
theorem dL_isParted_17 : decode cL_isParted 17 = .ok (.astore 4, 2) := by decide +kernel
theorem dL_isParted_172 : decode cL_isParted 172 = .ok (.ldc2_w 127, 3) := by decide +kernel
theorem dL_isParted_175 : decode cL_isParted 175 = .ok (.lcmp, 1) := by decide +kernel
theorem dL_isParted_176 : decode cL_isParted 176 = .ok (.ifCond .eq 5, 3) := by decide +kernel
theorem dL_isParted_181 : decode cL_isParted 181 = .ok (.lload 5, 2) := by decide +kernel
theorem dL_isParted_183 : decode cL_isParted 183 = .ok (.lconst 0, 1) := by decide +kernel
theorem dL_isParted_184 : decode cL_isParted 184 = .ok (.lcmp, 1) := by decide +kernel
theorem dL_isParted_185 : decode cL_isParted 185 = .ok (.ifCond .ne 26, 3) := by decide +kernel
theorem dL_isParted_188 : decode cL_isParted 188 = .ok (.aload_n 0, 1) := by decide +kernel
theorem dL_isParted_189 : decode cL_isParted 189 = .ok (.bipush 18, 2) := by decide +kernel
theorem dL_isParted_19 : decode cL_isParted 19 = .ok (.lconst 0, 1) := by decide +kernel
theorem dL_isParted_191 : decode cL_isParted 191 = .ok (.lload 7, 2) := by decide +kernel
theorem dL_isParted_193 : decode cL_isParted 193 = .ok (.iconst 0, 1) := by decide +kernel
theorem dL_isParted_194 : decode cL_isParted 194 = .ok (.iconst 0, 1) := by decide +kernel
theorem dL_isParted_195 : decode cL_isParted 195 = .ok (.invokestatic 161, 3) := by decide +kernel
theorem dL_isParted_198 : decode cL_isParted 198 = .ok (.ldc2_w 123, 3) := by decide +kernel
theorem dL_isParted_20 : decode cL_isParted 20 = .ok (.lstore 5, 2) := by decide +kernel
theorem dL_isParted_201 : decode cL_isParted 201 = .ok (.lcmp, 1) := by decide +kernel
theorem dL_isParted_202 : decode cL_isParted 202 = .ok (.ifCond .ne 7, 3) := by decide +kernel
theorem dL_isParted_205 : decode cL_isParted 205 = .ok (.iconst 1, 1) := by decide +kernel
theorem dL_isParted_206 : decode cL_isParted 206 = .ok (.goto 4, 3) := by decide +kernel
theorem dL_isParted_210 : decode cL_isParted 210 = .ok (.ireturn, 1) := by decide +kernel
theorem dL_isParted_211 : decode cL_isParted 211 = .ok (.lconst 0, 1) := by decide +kernel
theorem dL_isParted_212 : decode cL_isParted 212 = .ok (.lstore 9, 2) := by decide +kernel
theorem dL_isParted_214 : decode cL_isParted 214 = .ok (.lload 5, 2) := by decide +kernel
theorem dL_isParted_216 : decode cL_isParted 216 = .ok (.lstore 11, 2) := by decide +kernel
theorem dL_isParted_218 : decode cL_isParted 218 = .ok (.iload_n 3, 1) := by decide +kernel
theorem dL_isParted_219 : decode cL_isParted 219 = .ok (.istore 13, 2) := by decide +kernel
theorem dL_isParted_22 : decode cL_isParted 22 = .ok (.iconst 0, 1) := by decide +kernel
theorem dL_isParted_221 : decode cL_isParted 221 = .ok (.ldc2_w 191, 3) := by decide +kernel
theorem dL_isParted_224 : decode cL_isParted 224 = .ok (.lstore 14, 2) := by decide +kernel
theorem dL_isParted_226 : decode cL_isParted 226 = .ok (.iconst (-1), 1) := by decide +kernel
theorem dL_isParted_227 : decode cL_isParted 227 = .ok (.istore 16, 2) := by decide +kernel
theorem dL_isParted_229 : decode cL_isParted 229 = .ok (.iconst 0, 1) := by decide +kernel
theorem dL_isParted_23 : decode cL_isParted 23 = .ok (.istore 7, 2) := by decide +kernel
theorem dL_isParted_230 : decode cL_isParted 230 = .ok (.istore 17, 2) := by decide +kernel
theorem dL_isParted_232 : decode cL_isParted 232 = .ok (.iload 17, 2) := by decide +kernel
theorem dL_isParted_234 : decode cL_isParted 234 = .ok (.iload_n 3, 1) := by decide +kernel
theorem dL_isParted_235 : decode cL_isParted 235 = .ok (.if_icmp .ge 120, 3) := by decide +kernel
theorem dL_isParted_238 : decode cL_isParted 238 = .ok (.aload_n 0, 1) := by decide +kernel
theorem dL_isParted_239 : decode cL_isParted 239 = .ok (.lload 7, 2) := by decide +kernel
theorem dL_isParted_241 : decode cL_isParted 241 = .ok (.iload 17, 2) := by decide +kernel
theorem dL_isParted_243 : decode cL_isParted 243 = .ok (.invokevirtual 86, 3) := by decide +kernel
theorem dL_isParted_246 : decode cL_isParted 246 = .ok (.lstore 18, 2) := by decide +kernel
theorem dL_isParted_248 : decode cL_isParted 248 = .ok (.lload 7, 2) := by decide +kernel
theorem dL_isParted_25 : decode cL_isParted 25 = .ok (.iload 7, 2) := by decide +kernel
theorem dL_isParted_250 : decode cL_isParted 250 = .ok (.aload 4, 2) := by decide +kernel
theorem dL_isParted_252 : decode cL_isParted 252 = .ok (.iload 17, 2) := by decide +kernel
theorem dL_isParted_254 : decode cL_isParted 254 = .ok (.laload, 1) := by decide +kernel
theorem dL_isParted_255 : decode cL_isParted 255 = .ok (.lmul, 1) := by decide +kernel
theorem dL_isParted_256 : decode cL_isParted 256 = .ok (.lload 5, 2) := by decide +kernel
theorem dL_isParted_258 : decode cL_isParted 258 = .ok (.ldiv, 1) := by decide +kernel
theorem dL_isParted_259 : decode cL_isParted 259 = .ok (.lstore 20, 2) := by decide +kernel
theorem dL_isParted_261 : decode cL_isParted 261 = .ok (.lload 7, 2) := by decide +kernel
theorem dL_isParted_263 : decode cL_isParted 263 = .ok (.aload 4, 2) := by decide +kernel
theorem dL_isParted_265 : decode cL_isParted 265 = .ok (.iload 17, 2) := by decide +kernel
theorem dL_isParted_267 : decode cL_isParted 267 = .ok (.laload, 1) := by decide +kernel
theorem dL_isParted_268 : decode cL_isParted 268 = .ok (.lmul, 1) := by decide +kernel
theorem dL_isParted_269 : decode cL_isParted 269 = .ok (.lload 5, 2) := by decide +kernel
theorem dL_isParted_27 : decode cL_isParted 27 = .ok (.iload_n 3, 1) := by decide +kernel
theorem dL_isParted_271 : decode cL_isParted 271 = .ok (.lrem, 1) := by decide +kernel
theorem dL_isParted_272 : decode cL_isParted 272 = .ok (.lstore 22, 2) := by decide +kernel
theorem dL_isParted_274 : decode cL_isParted 274 = .ok (.lload 9, 2) := by decide +kernel
theorem dL_isParted_276 : decode cL_isParted 276 = .ok (.lload 18, 2) := by decide +kernel
theorem dL_isParted_278 : decode cL_isParted 278 = .ok (.ladd, 1) := by decide +kernel
theorem dL_isParted_279 : decode cL_isParted 279 = .ok (.lstore 9, 2) := by decide +kernel
theorem dL_isParted_28 : decode cL_isParted 28 = .ok (.if_icmp .ge 84, 3) := by decide +kernel
theorem dL_isParted_281 : decode cL_isParted 281 = .ok (.lload 18, 2) := by decide +kernel
theorem dL_isParted_283 : decode cL_isParted 283 = .ok (.lload 20, 2) := by decide +kernel
theorem dL_isParted_285 : decode cL_isParted 285 = .ok (.lconst 1, 1) := by decide +kernel
theorem dL_isParted_286 : decode cL_isParted 286 = .ok (.ladd, 1) := by decide +kernel
theorem dL_isParted_287 : decode cL_isParted 287 = .ok (.lcmp, 1) := by decide +kernel
theorem dL_isParted_288 : decode cL_isParted 288 = .ok (.ifCond .ne 27, 3) := by decide +kernel
theorem dL_isParted_291 : decode cL_isParted 291 = .ok (.lload 22, 2) := by decide +kernel
theorem dL_isParted_293 : decode cL_isParted 293 = .ok (.lload 11, 2) := by decide +kernel
theorem dL_isParted_295 : decode cL_isParted 295 = .ok (.lcmp, 1) := by decide +kernel
theorem dL_isParted_296 : decode cL_isParted 296 = .ok (.ifCond .gt 7, 3) := by decide +kernel
theorem dL_isParted_299 : decode cL_isParted 299 = .ok (.iload 17, 2) := by decide +kernel
theorem dL_isParted_301 : decode cL_isParted 301 = .ok (.istore 13, 2) := by decide +kernel
theorem dL_isParted_303 : decode cL_isParted 303 = .ok (.lload 11, 2) := by decide +kernel
theorem dL_isParted_305 : decode cL_isParted 305 = .ok (.lload 22, 2) := by decide +kernel
theorem dL_isParted_307 : decode cL_isParted 307 = .ok (.invokestatic 208, 3) := by decide +kernel
theorem dL_isParted_31 : decode cL_isParted 31 = .ok (.aload 4, 2) := by decide +kernel
theorem dL_isParted_310 : decode cL_isParted 310 = .ok (.lstore 11, 2) := by decide +kernel
theorem dL_isParted_312 : decode cL_isParted 312 = .ok (.goto 37, 3) := by decide +kernel
theorem dL_isParted_315 : decode cL_isParted 315 = .ok (.lload 18, 2) := by decide +kernel
theorem dL_isParted_317 : decode cL_isParted 317 = .ok (.lload 20, 2) := by decide +kernel
theorem dL_isParted_319 : decode cL_isParted 319 = .ok (.lcmp, 1) := by decide +kernel
theorem dL_isParted_320 : decode cL_isParted 320 = .ok (.ifCond .ne 27, 3) := by decide +kernel
theorem dL_isParted_323 : decode cL_isParted 323 = .ok (.lload 22, 2) := by decide +kernel
theorem dL_isParted_325 : decode cL_isParted 325 = .ok (.lload 14, 2) := by decide +kernel
theorem dL_isParted_327 : decode cL_isParted 327 = .ok (.lcmp, 1) := by decide +kernel
theorem dL_isParted_328 : decode cL_isParted 328 = .ok (.ifCond .le 7, 3) := by decide +kernel
theorem dL_isParted_33 : decode cL_isParted 33 = .ok (.iload 7, 2) := by decide +kernel
theorem dL_isParted_331 : decode cL_isParted 331 = .ok (.iload 17, 2) := by decide +kernel
theorem dL_isParted_333 : decode cL_isParted 333 = .ok (.istore 16, 2) := by decide +kernel
theorem dL_isParted_335 : decode cL_isParted 335 = .ok (.lload 14, 2) := by decide +kernel
theorem dL_isParted_337 : decode cL_isParted 337 = .ok (.lload 22, 2) := by decide +kernel
theorem dL_isParted_339 : decode cL_isParted 339 = .ok (.invokestatic 242, 3) := by decide +kernel
theorem dL_isParted_342 : decode cL_isParted 342 = .ok (.lstore 14, 2) := by decide +kernel
theorem dL_isParted_344 : decode cL_isParted 344 = .ok (.goto 5, 3) := by decide +kernel
theorem dL_isParted_349 : decode cL_isParted 349 = .ok (.iinc 17 1, 3) := by decide +kernel
theorem dL_isParted_35 : decode cL_isParted 35 = .ok (.aload_n 1, 1) := by decide +kernel
theorem dL_isParted_352 : decode cL_isParted 352 = .ok (.goto (-120), 3) := by decide +kernel
theorem dL_isParted_355 : decode cL_isParted 355 = .ok (.lload 9, 2) := by decide +kernel
theorem dL_isParted_357 : decode cL_isParted 357 = .ok (.lload 7, 2) := by decide +kernel
theorem dL_isParted_359 : decode cL_isParted 359 = .ok (.lcmp, 1) := by decide +kernel
theorem dL_isParted_36 : decode cL_isParted 36 = .ok (.iconst 4, 1) := by decide +kernel
theorem dL_isParted_360 : decode cL_isParted 360 = .ok (.ifCond .ne 44, 3) := by decide +kernel
theorem dL_isParted_363 : decode cL_isParted 363 = .ok (.lload 14, 2) := by decide +kernel
theorem dL_isParted_365 : decode cL_isParted 365 = .ok (.lload 11, 2) := by decide +kernel
theorem dL_isParted_367 : decode cL_isParted 367 = .ok (.lcmp, 1) := by decide +kernel
theorem dL_isParted_368 : decode cL_isParted 368 = .ok (.ifCond .lt 24, 3) := by decide +kernel
theorem dL_isParted_37 : decode cL_isParted 37 = .ok (.invokestatic 13, 3) := by decide +kernel
theorem dL_isParted_371 : decode cL_isParted 371 = .ok (.lload 14, 2) := by decide +kernel
theorem dL_isParted_373 : decode cL_isParted 373 = .ok (.lload 11, 2) := by decide +kernel
theorem dL_isParted_375 : decode cL_isParted 375 = .ok (.lcmp, 1) := by decide +kernel
theorem dL_isParted_376 : decode cL_isParted 376 = .ok (.ifCond .ne 10, 3) := by decide +kernel
theorem dL_isParted_379 : decode cL_isParted 379 = .ok (.iload 13, 2) := by decide +kernel
theorem dL_isParted_381 : decode cL_isParted 381 = .ok (.iload 16, 2) := by decide +kernel
theorem dL_isParted_383 : decode cL_isParted 383 = .ok (.if_icmp .lt 9, 3) := by decide +kernel
theorem dL_isParted_386 : decode cL_isParted 386 = .ok (.iload 13, 2) := by decide +kernel
theorem dL_isParted_388 : decode cL_isParted 388 = .ok (.iload_n 3, 1) := by decide +kernel
theorem dL_isParted_389 : decode cL_isParted 389 = .ok (.if_icmp .ne 15, 3) := by decide +kernel
theorem dL_isParted_392 : decode cL_isParted 392 = .ok (.aload_n 0, 1) := by decide +kernel
theorem dL_isParted_393 : decode cL_isParted 393 = .ok (.invokevirtual 236, 3) := by decide +kernel
theorem dL_isParted_396 : decode cL_isParted 396 = .ok (.iload_n 3, 1) := by decide +kernel
theorem dL_isParted_397 : decode cL_isParted 397 = .ok (.if_icmp .ne 7, 3) := by decide +kernel
theorem dL_isParted_4 : decode cL_isParted 4 = .ok (.istore_n 2, 1) := by decide +kernel
theorem dL_isParted_40 : decode cL_isParted 40 = .ok (.ifCond .ne 7, 3) := by decide +kernel
theorem dL_isParted_400 : decode cL_isParted 400 = .ok (.iconst 1, 1) := by decide +kernel
theorem dL_isParted_401 : decode cL_isParted 401 = .ok (.goto 4, 3) := by decide +kernel
theorem dL_isParted_405 : decode cL_isParted 405 = .ok (.ireturn, 1) := by decide +kernel
theorem dL_isParted_43 : decode cL_isParted 43 = .ok (.lconst 0, 1) := by decide +kernel
theorem dL_isParted_44 : decode cL_isParted 44 = .ok (.goto 32, 3) := by decide +kernel
theorem dL_isParted_47 : decode cL_isParted 47 = .ok (.aload_n 1, 1) := by decide +kernel
theorem dL_isParted_48 : decode cL_isParted 48 = .ok (.iconst 3, 1) := by decide +kernel
theorem dL_isParted_49 : decode cL_isParted 49 = .ok (.invokestatic 13, 3) := by decide +kernel
theorem dL_isParted_5 : decode cL_isParted 5 = .ok (.iconst 1, 1) := by decide +kernel
theorem dL_isParted_52 : decode cL_isParted 52 = .ok (.ifCond .ne 15, 3) := by decide +kernel
theorem dL_isParted_55 : decode cL_isParted 55 = .ok (.iconst 1, 1) := by decide +kernel
theorem dL_isParted_56 : decode cL_isParted 56 = .ok (.aload_n 1, 1) := by decide +kernel
theorem dL_isParted_57 : decode cL_isParted 57 = .ok (.ldc 152, 2) := by decide +kernel
theorem dL_isParted_59 : decode cL_isParted 59 = .ok (.invokestatic 13, 3) := by decide +kernel
theorem dL_isParted_6 : decode cL_isParted 6 = .ok (.aload_n 1, 1) := by decide +kernel
theorem dL_isParted_62 : decode cL_isParted 62 = .ok (.iadd, 1) := by decide +kernel
theorem dL_isParted_63 : decode cL_isParted 63 = .ok (.i2l, 1) := by decide +kernel
theorem dL_isParted_64 : decode cL_isParted 64 = .ok (.goto 12, 3) := by decide +kernel
theorem dL_isParted_67 : decode cL_isParted 67 = .ok (.iconst 1, 1) := by decide +kernel
theorem dL_isParted_68 : decode cL_isParted 68 = .ok (.aload_n 1, 1) := by decide +kernel
theorem dL_isParted_69 : decode cL_isParted 69 = .ok (.bipush 9, 2) := by decide +kernel
theorem dL_isParted_7 : decode cL_isParted 7 = .ok (.bipush 12, 2) := by decide +kernel
theorem dL_isParted_71 : decode cL_isParted 71 = .ok (.invokestatic 13, 3) := by decide +kernel
theorem dL_isParted_74 : decode cL_isParted 74 = .ok (.iadd, 1) := by decide +kernel
theorem dL_isParted_75 : decode cL_isParted 75 = .ok (.i2l, 1) := by decide +kernel
theorem dL_isParted_76 : decode cL_isParted 76 = .ok (.lastore, 1) := by decide +kernel
theorem dL_isParted_77 : decode cL_isParted 77 = .ok (.aload_n 0, 1) := by decide +kernel
theorem dL_isParted_78 : decode cL_isParted 78 = .ok (.aload 4, 2) := by decide +kernel
theorem dL_isParted_80 : decode cL_isParted 80 = .ok (.iload 7, 2) := by decide +kernel
theorem dL_isParted_82 : decode cL_isParted 82 = .ok (.laload, 1) := by decide +kernel
theorem dL_isParted_83 : decode cL_isParted 83 = .ok (.l2i, 1) := by decide +kernel
theorem dL_isParted_84 : decode cL_isParted 84 = .ok (.invokevirtual 83, 3) := by decide +kernel
theorem dL_isParted_87 : decode cL_isParted 87 = .ok (.iload 7, 2) := by decide +kernel
theorem dL_isParted_89 : decode cL_isParted 89 = .ok (.iconst 1, 1) := by decide +kernel
theorem dL_isParted_9 : decode cL_isParted 9 = .ok (.invokestatic 13, 3) := by decide +kernel
theorem dL_isParted_90 : decode cL_isParted 90 = .ok (.iadd, 1) := by decide +kernel
theorem dL_isParted_91 : decode cL_isParted 91 = .ok (.if_icmp .eq 5, 3) := by decide +kernel
theorem dL_isParted_96 : decode cL_isParted 96 = .ok (.lload 5, 2) := by decide +kernel
theorem dL_isParted_98 : decode cL_isParted 98 = .ok (.aload 4, 2) := by decide +kernel
set_option maxRecDepth 20000 in
theorem gpL_isParted_L_asks_wsL_asks_r1 : GoodIn wsL_isParted wsL_asks_r1 := goodIn_r _ [60, 61, 62, 5, 7, 63, 64, 65, 66, 18, 67, 68, 69, 70, 71, 72, 39, 40, 41, 42, 43, 44, 45, 46] (by decide +kernel) (by decide +kernel)
theorem gpL_isParted_L_asks_wsL_asks_r2 : GoodIn wsL_isParted wsL_asks_r2 := goodIn_r _ [73, 74, 75, 76, 77, 78, 79, 10, 80, 81, 82, 83, 84, 85, 86, 87, 88, 48, 49, 50, 51, 89, 90, 91] (by decide +kernel) (by decide +kernel)
theorem gpL_isParted_L_asks_wsL_asks_r3 : GoodIn wsL_isParted wsL_asks_r3 := goodIn_r _ [92, 93, 94, 95, 96, 97, 98, 99, 100, 101, 102, 103, 104, 105, 106, 107, 108, 109, 110, 111, 112, 113, 114, 115] (by decide +kernel) (by decide +kernel)
theorem gpL_isParted_L_asks_wsL_asks_r4 : GoodIn wsL_isParted wsL_asks_r4 := goodIn_r _ [116, 117, 118, 119, 37, 120, 121, 122, 123, 124, 125, 126, 127, 128, 129, 130, 131, 132, 133, 134, 135, 136, 137, 138] (by decide +kernel) (by decide +kernel)
theorem gpL_isParted_L_asks_wsL_asks_r5 : GoodIn wsL_isParted wsL_asks_r5 := goodIn_r _ [139, 140, 141, 142, 143, 144, 145, 146, 147, 148, 149, 150, 151, 152, 153, 154, 155, 156, 157, 158, 159, 160, 13, 14] (by decide +kernel) (by decide +kernel)
theorem gpL_isParted_L_asks_wsL_asks_r6 : GoodIn wsL_isParted wsL_asks_r6 := goodIn_r _ [161, 162, 163, 164, 165, 166, 167, 168, 169, 170, 171, 172, 173, 174, 175, 176, 177, 178, 179, 180, 181, 182, 183, 184] (by decide +kernel) (by decide +kernel)
theorem gpL_isParted_L_asks_wsL_asks_r7 : GoodIn wsL_isParted wsL_asks_r7 := goodIn_r _ [185, 186, 187, 188, 189, 190, 191, 192, 193, 194, 195, 196, 197, 198, 199, 200, 201, 202, 203, 204, 1, 205, 206, 207] (by decide +kernel) (by decide +kernel)
theorem gpL_isParted_L_asks_wsL_asks_r8 : GoodIn wsL_isParted wsL_asks_r8 := goodIn_r _ [208, 209, 210, 211, 212, 213, 214, 215, 216, 217, 218, 219, 220, 221, 222, 223, 224, 225, 226, 227, 228, 229, 230, 231] (by decide +kernel) (by decide +kernel)
theorem gpL_isParted_L_asks_wsL_asks_r9 : GoodIn wsL_isParted wsL_asks_r9 := goodIn_r _ [232, 233, 234, 235, 236, 237, 238, 239, 240, 241, 242, 243, 244, 245, 246, 247, 248, 249, 250, 251, 252, 253, 254, 255] (by decide +kernel) (by decide +kernel)
theorem gpL_isParted_L_asks_wsL_asks_r10 : GoodIn wsL_isParted wsL_asks_r10 := goodIn_r _ [256, 257, 258, 259, 260, 261, 262, 263, 264, 265, 47, 266, 267, 268, 269, 270, 271, 272, 273, 274, 275, 276, 277, 278] (by decide +kernel) (by decide +kernel)
theorem gpL_isParted_L_asks_wsL_asks_r11 : GoodIn wsL_isParted wsL_asks_r11 := goodIn_r _ [279, 280, 281, 282, 283, 284, 285, 286, 287, 288, 289, 290, 291, 292, 293, 294, 295, 296, 297, 298, 299, 300, 301, 302] (by decide +kernel) (by decide +kernel)
theorem gpL_isParted_L_asks_wsL_asks_r12 : GoodIn wsL_isParted wsL_asks_r12 := goodIn_r _ [303, 304, 305, 306, 307, 308, 309, 310, 311, 312, 313, 314, 315, 316, 317, 318, 319, 9, 11, 320, 321, 322, 323, 324] (by decide +kernel) (by decide +kernel)
theorem gpL_isParted_L_asks_wsL_asks_r13 : GoodIn wsL_isParted wsL_asks_r13 := goodIn_r _ [325, 326, 327, 328, 329, 330, 331, 332, 333, 334, 335, 336, 337, 338, 339, 340, 341, 342, 343, 344, 345, 346, 347, 348] (by decide +kernel) (by decide +kernel)
theorem gpL_isParted_L_asks_wsL_asks_r14 : GoodIn wsL_isParted wsL_asks_r14 := goodIn_r _ [349, 350, 351, 352, 353, 354, 355, 356, 357, 358, 359, 360, 361, 362, 363, 364, 365, 366, 367, 368, 369, 370, 371, 372] (by decide +kernel) (by decide +kernel)
theorem gpL_isParted_L_asks_wsL_asks_r15 : GoodIn wsL_isParted wsL_asks_r15 := goodIn_r _ [373, 374, 375, 376, 377, 378, 379, 380, 381, 382, 383, 384, 385, 386, 387, 388, 389, 390, 391, 392, 393, 394, 395, 396] (by decide +kernel) (by decide +kernel)
theorem gpL_isParted_L_asks_wsL_asks_r16 : GoodIn wsL_isParted wsL_asks_r16 := goodIn_r _ [397, 398, 399, 400, 401, 402, 403, 404, 405, 406, 407, 408, 409, 410, 411, 412, 413, 414, 415, 416, 417, 418, 419, 420] (by decide +kernel) (by decide +kernel)
theorem gpL_isParted_L_asks_wsL_asks_r17 : GoodIn wsL_isParted wsL_asks_r17 := goodIn_r _ [421, 422, 423, 424, 425, 426, 427, 428, 429, 430, 431, 432, 433, 434, 435, 436, 437, 438, 439, 440, 441, 442, 443, 444] (by decide +kernel) (by decide +kernel)
theorem gpL_isParted_L_asks_wsL_asks_r18 : GoodIn wsL_isParted wsL_asks_r18 := goodIn_r _ [445, 446, 447, 448, 449, 450, 451, 452, 453, 454, 455, 456, 457, 458, 459, 460, 461, 462, 463, 464, 465, 466, 467, 468] (by decide +kernel) (by decide +kernel)
theorem gpL_isParted_L_asks_wsL_asks_r19 : GoodIn wsL_isParted wsL_asks_r19 := goodIn_r _ [469, 470, 471, 472, 33, 34, 35, 36, 20, 38, 52, 53, 54, 24, 55, 56, 26, 473, 474, 475, 476, 477, 478, 479] (by decide +kernel) (by decide +kernel)
theorem gpL_isParted_L_asks_wsL_asks_r20 : GoodIn wsL_isParted wsL_asks_r20 := goodIn_r _ [480, 481, 482, 483, 484, 485, 486, 487, 488, 489, 490, 491, 492, 493, 494, 495, 496, 497, 498, 499, 500, 501, 502, 503] (by decide +kernel) (by decide +kernel)
theorem gpL_isParted_L_asks_wsL_asks_r21 : GoodIn wsL_isParted wsL_asks_r21 := goodIn_r _ [504, 505, 506, 507, 508, 509, 510, 511, 512, 513, 514, 515, 516, 517, 518, 519, 520, 521, 522, 523, 524, 525, 526, 527] (by decide +kernel) (by decide +kernel)
theorem gpL_isParted_L_asks_wsL_asks_r22 : GoodIn wsL_isParted wsL_asks_r22 := goodIn_r _ [528, 529, 530, 531, 532, 533, 534, 535, 536, 537, 538, 539, 540, 541, 542, 543, 544, 545, 546, 547, 548, 549, 550, 551] (by decide +kernel) (by decide +kernel)
theorem gpL_isParted_L_asks_wsL_asks_r23 : GoodIn wsL_isParted wsL_asks_r23 := goodIn_r _ [552, 553, 554, 555, 556, 557, 558, 559, 560, 561, 562, 563, 564, 565, 566, 567, 568, 569, 570, 571, 572, 573, 574, 575] (by decide +kernel) (by decide +kernel)
theorem gpL_isParted_L_asks_wsL_asks_r24 : GoodIn wsL_isParted wsL_asks_r24 := goodIn_r _ [576] (by decide +kernel) (by decide +kernel)
theorem gpL_isParted_L_asks_wsX90 : GoodIn wsL_isParted wsX90 := goodIn_r _ [577, 578, 579, 580, 581, 582, 583, 584] (by decide +kernel) (by decide +kernel)
theorem gpL_isParted_L_asks_wsX40 : GoodIn wsL_isParted wsX40 := goodIn_r _ [587] (by decide +kernel) (by decide +kernel)
theorem gpL_isParted_L_asks_wsX50 : GoodIn wsL_isParted wsX50 := goodIn_r _ [588, 589, 590] (by decide +kernel) (by decide +kernel)
theorem gpL_isParted_L_asks_wsX10 : GoodIn wsL_isParted wsX10 := goodIn_r _ [591, 592, 593, 594, 595, 596] (by decide +kernel) (by decide +kernel)
theorem gpL_isParted_L_asks_wsX80 : GoodIn wsL_isParted wsX80 := goodIn_r _ [597, 598, 599] (by decide +kernel) (by decide +kernel)
theorem gpL_isParted_L_asks_wsX30 : GoodIn wsL_isParted wsX30 := goodIn_r _ [600, 601, 602, 603, 604, 605, 606, 607] (by decide +kernel) (by decide +kernel)
theorem gpL_isParted_L_asks_wsX00 : GoodIn wsL_isParted wsX00 := goodIn_r _ [608] (by decide +kernel) (by decide +kernel)
theorem gpL_isParted_L_asks_wsX20 : GoodIn wsL_isParted wsX20 := goodIn_r _ [609, 610, 611, 612] (by decide +kernel) (by decide +kernel)
theorem gpL_isParted_L_asks_wsX60 : GoodIn wsL_isParted wsX60 := goodIn_r _ [585, 586] (by decide +kernel) (by decide +kernel)
theorem gpL_isParted_L_asks_wsX70 : GoodIn wsL_isParted wsX70 := goodIn_r _ [613, 614, 615] (by decide +kernel) (by decide +kernel)
theorem ggL_isParted_L_asks : GoodIn wsL_isParted wsL_asks := goodIn_ca (goodIn_ca (goodIn_ca (goodIn_cons (goodIn_r [_] [59] (by decide +kernel) (by decide +kernel)) (goodIn_app (goodIn_app (goodIn_app (goodIn_app (goodIn_app (goodIn_app (goodIn_app (goodIn_app (goodIn_app (goodIn_app (goodIn_app gpL_isParted_L_asks_wsL_asks_r1 (goodIn_app gpL_isParted_L_asks_wsL_asks_r2 (goodIn_app gpL_isParted_L_asks_wsL_asks_r3 (goodIn_app gpL_isParted_L_asks_wsL_asks_r4 (goodIn_app gpL_isParted_L_asks_wsL_asks_r5 (goodIn_app gpL_isParted_L_asks_wsL_asks_r6 (goodIn_app gpL_isParted_L_asks_wsL_asks_r7 (goodIn_app gpL_isParted_L_asks_wsL_asks_r8 (goodIn_app gpL_isParted_L_asks_wsL_asks_r9 (goodIn_app gpL_isParted_L_asks_wsL_asks_r10 (goodIn_app gpL_isParted_L_asks_wsL_asks_r11 (goodIn_app gpL_isParted_L_asks_wsL_asks_r12 (goodIn_app gpL_isParted_L_asks_wsL_asks_r13 (goodIn_app gpL_isParted_L_asks_wsL_asks_r14 (goodIn_app gpL_isParted_L_asks_wsL_asks_r15 (goodIn_app gpL_isParted_L_asks_wsL_asks_r16 (goodIn_app gpL_isParted_L_asks_wsL_asks_r17 (goodIn_app gpL_isParted_L_asks_wsL_asks_r18 (goodIn_app gpL_isParted_L_asks_wsL_asks_r19 (goodIn_app gpL_isParted_L_asks_wsL_asks_r20 (goodIn_app gpL_isParted_L_asks_wsL_asks_r21 (goodIn_app gpL_isParted_L_asks_wsL_asks_r22 (goodIn_app gpL_isParted_L_asks_wsL_asks_r23 (gpL_isParted_L_asks_wsL_asks_r24)))))))))))))))))))))))) gpL_isParted_L_asks_wsX90) gpL_isParted_L_asks_wsX40) gpL_isParted_L_asks_wsX50) gpL_isParted_L_asks_wsX10) gpL_isParted_L_asks_wsX80) gpL_isParted_L_asks_wsX30) gpL_isParted_L_asks_wsX00) gpL_isParted_L_asks_wsX20) gpL_isParted_L_asks_wsX60) gpL_isParted_L_asks_wsX70)) (goodIn_sub (fun _ h => List.mem_cons_of_mem _ (List.mem_append_left _ (List.mem_append_left _ (List.mem_append_right _ h)))) (by decide +kernel))) (goodIn_sub (fun _ h => List.mem_cons_of_mem _ (List.mem_append_left _ (List.mem_append_right _ h))) (by decide +kernel))) (goodIn_sub (fun _ h => List.mem_cons_of_mem _ (List.mem_append_right _ h)) (by decide +kernel))
set_option maxRecDepth 20000 in
theorem gL_isParted_L_asks : GoodIn wsL_isParted (va_wsS RL 161 yL_asks wsL_asks) := goodIn_app (goodIn_of _ (by decide +kernel)) ggL_isParted_L_asks
set_option maxRecDepth 20000 in
theorem ggL_isParted_L_draw : GoodIn wsL_isParted wsL_draw := goodIn_r _ [30, 31, 32] (by decide +kernel) (by decide +kernel)
set_option maxRecDepth 20000 in
theorem gL_isParted_L_draw : GoodIn wsL_isParted (va_wsS RL 13 yL_draw wsL_draw) := goodIn_app (goodIn_of _ (by decide +kernel)) ggL_isParted_L_draw
set_option maxRecDepth 20000 in
theorem ggL_isParted_X9_clearWeights : GoodIn wsL_isParted wsX9_clearWeights := goodIn_r _ [19, 20, 21, 22, 23, 24, 25, 26, 577, 578, 579, 580, 581, 582, 583, 584, 585, 586] (by decide +kernel) (by decide +kernel)
set_option maxRecDepth 20000 in
theorem gL_isParted_X9_clearWeights : GoodIn wsL_isParted (wsV RL 236 RX9 yX9_clearWeights wsX9_clearWeights) := goodIn_app (goodIn_of _ (by decide +kernel)) ggL_isParted_X9_clearWeights
set_option maxRecDepth 20000 in
theorem ggL_isParted_X9_part : GoodIn wsL_isParted wsX9_part := goodIn_ca (goodIn_ca (goodIn_r _ [476, 69, 20, 38, 39, 40, 18, 41, 42, 43, 44, 45, 46, 367, 368, 369, 370, 371, 477, 478, 479, 24, 480, 26, 56, 481, 482, 483, 484, 485, 577, 578, 579, 580, 581, 582, 583, 584, 585, 586] (by decide +kernel) (by decide +kernel)) (goodIn_sub (fun _ h => List.mem_cons_of_mem _ (List.mem_append_left _ (List.mem_append_left _ (List.mem_append_right _ h)))) (by decide +kernel))) (goodIn_sub (fun _ h => List.mem_cons_of_mem _ (List.mem_append_right _ h)) (by decide +kernel))
set_option maxRecDepth 20000 in
theorem gL_isParted_X9_part : GoodIn wsL_isParted (wsV RL 86 RX9 yX9_part wsX9_part) := goodIn_app (goodIn_of _ (by decide +kernel)) ggL_isParted_X9_part
set_option maxRecDepth 20000 in
theorem ggL_isParted_X9_weigh : GoodIn wsL_isParted wsX9_weigh := goodIn_ca (goodIn_ca (goodIn_r _ [36, 37, 20, 38, 39, 40, 18, 41, 42, 43, 44, 45, 46, 47, 48, 49, 50, 51, 52, 53, 54, 24, 55, 56, 26, 577, 578, 579, 580, 581, 582, 583, 584, 585, 586] (by decide +kernel) (by decide +kernel)) (goodIn_sub (fun _ h => List.mem_cons_of_mem _ (List.mem_append_left _ (List.mem_append_left _ (List.mem_append_right _ h)))) (by decide +kernel))) (goodIn_sub (fun _ h => List.mem_cons_of_mem _ (List.mem_append_left _ (List.mem_append_right _ h))) (by decide +kernel))
set_option maxRecDepth 20000 in
theorem gL_isParted_X9_weigh : GoodIn wsL_isParted (wsV RL 83 RX9 yX9_weigh wsX9_weigh) := goodIn_app (goodIn_of _ (by decide +kernel)) ggL_isParted_X9_weigh
