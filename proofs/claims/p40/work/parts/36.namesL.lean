-- printed rows that the walks use
theorem dL_asks_0 : decode cL_asks 0 = .ok (.iload_n 1, 1) := by decide +kernel
theorem dL_asks_1 : decode cL_asks 1 = .ok (.tableswitch 387 0 27 #[127, 138, 146, 158, 167, 173, 183, 198, 208, 217, 226, 233, 244, 254, 262, 272, 282, 292, 300, 308, 317, 323, 329, 342, 350, 357, 369, 381], 127) := by decide +kernel
theorem dL_asks_128 : decode cL_asks 128 = .ok (.aload_n 0, 1) := by decide +kernel
theorem dL_asks_129 : decode cL_asks 129 = .ok (.lload_n 2, 1) := by decide +kernel
theorem dL_asks_130 : decode cL_asks 130 = .ok (.iload 4, 2) := by decide +kernel
theorem dL_asks_132 : decode cL_asks 132 = .ok (.i2l, 1) := by decide +kernel
theorem dL_asks_133 : decode cL_asks 133 = .ok (.iload 5, 2) := by decide +kernel
theorem dL_asks_135 : decode cL_asks 135 = .ok (.invokevirtual 19, 3) := by decide +kernel
theorem dL_asks_138 : decode cL_asks 138 = .ok (.lreturn, 1) := by decide +kernel
theorem dL_asks_139 : decode cL_asks 139 = .ok (.aload_n 0, 1) := by decide +kernel
theorem dL_asks_140 : decode cL_asks 140 = .ok (.iload 4, 2) := by decide +kernel
theorem dL_asks_142 : decode cL_asks 142 = .ok (.lload_n 2, 1) := by decide +kernel
theorem dL_asks_143 : decode cL_asks 143 = .ok (.invokevirtual 23, 3) := by decide +kernel
theorem dL_asks_146 : decode cL_asks 146 = .ok (.lreturn, 1) := by decide +kernel
theorem dL_asks_147 : decode cL_asks 147 = .ok (.aload_n 0, 1) := by decide +kernel
theorem dL_asks_148 : decode cL_asks 148 = .ok (.iload 4, 2) := by decide +kernel
theorem dL_asks_150 : decode cL_asks 150 = .ok (.iload 5, 2) := by decide +kernel
theorem dL_asks_152 : decode cL_asks 152 = .ok (.lload_n 2, 1) := by decide +kernel
theorem dL_asks_153 : decode cL_asks 153 = .ok (.lconst 0, 1) := by decide +kernel
theorem dL_asks_154 : decode cL_asks 154 = .ok (.invokevirtual 27, 3) := by decide +kernel
theorem dL_asks_157 : decode cL_asks 157 = .ok (.i2l, 1) := by decide +kernel
theorem dL_asks_158 : decode cL_asks 158 = .ok (.lreturn, 1) := by decide +kernel
theorem dL_asks_159 : decode cL_asks 159 = .ok (.aload_n 0, 1) := by decide +kernel
theorem dL_asks_160 : decode cL_asks 160 = .ok (.iload 4, 2) := by decide +kernel
theorem dL_asks_162 : decode cL_asks 162 = .ok (.iload 5, 2) := by decide +kernel
theorem dL_asks_164 : decode cL_asks 164 = .ok (.invokevirtual 31, 3) := by decide +kernel
theorem dL_asks_167 : decode cL_asks 167 = .ok (.lreturn, 1) := by decide +kernel
theorem dL_asks_168 : decode cL_asks 168 = .ok (.aload_n 0, 1) := by decide +kernel
theorem dL_asks_169 : decode cL_asks 169 = .ok (.invokevirtual 35, 3) := by decide +kernel
theorem dL_asks_172 : decode cL_asks 172 = .ok (.i2l, 1) := by decide +kernel
theorem dL_asks_173 : decode cL_asks 173 = .ok (.lreturn, 1) := by decide +kernel
theorem dL_asks_218 : decode cL_asks 218 = .ok (.aload_n 0, 1) := by decide +kernel
theorem dL_asks_219 : decode cL_asks 219 = .ok (.iload 4, 2) := by decide +kernel
theorem dL_asks_221 : decode cL_asks 221 = .ok (.iload 5, 2) := by decide +kernel
theorem dL_asks_223 : decode cL_asks 223 = .ok (.invokevirtual 55, 3) := by decide +kernel
theorem dL_asks_226 : decode cL_asks 226 = .ok (.lreturn, 1) := by decide +kernel
theorem dL_asks_227 : decode cL_asks 227 = .ok (.aload_n 0, 1) := by decide +kernel
theorem dL_asks_228 : decode cL_asks 228 = .ok (.iload 4, 2) := by decide +kernel
theorem dL_asks_230 : decode cL_asks 230 = .ok (.invokevirtual 58, 3) := by decide +kernel
theorem dL_asks_233 : decode cL_asks 233 = .ok (.lreturn, 1) := by decide +kernel
theorem dL_asks_234 : decode cL_asks 234 = .ok (.aload_n 0, 1) := by decide +kernel
theorem dL_asks_235 : decode cL_asks 235 = .ok (.lload_n 2, 1) := by decide +kernel
theorem dL_asks_236 : decode cL_asks 236 = .ok (.lload_n 2, 1) := by decide +kernel
theorem dL_asks_237 : decode cL_asks 237 = .ok (.iload 4, 2) := by decide +kernel
theorem dL_asks_239 : decode cL_asks 239 = .ok (.iload 5, 2) := by decide +kernel
theorem dL_asks_241 : decode cL_asks 241 = .ok (.invokevirtual 62, 3) := by decide +kernel
theorem dL_asks_244 : decode cL_asks 244 = .ok (.lreturn, 1) := by decide +kernel
theorem dL_asks_245 : decode cL_asks 245 = .ok (.aload_n 0, 1) := by decide +kernel
theorem dL_asks_246 : decode cL_asks 246 = .ok (.lload_n 2, 1) := by decide +kernel
theorem dL_asks_247 : decode cL_asks 247 = .ok (.iload 4, 2) := by decide +kernel
theorem dL_asks_249 : decode cL_asks 249 = .ok (.iload 5, 2) := by decide +kernel
theorem dL_asks_251 : decode cL_asks 251 = .ok (.invokevirtual 66, 3) := by decide +kernel
theorem dL_asks_254 : decode cL_asks 254 = .ok (.lreturn, 1) := by decide +kernel
theorem dL_asks_255 : decode cL_asks 255 = .ok (.aload_n 0, 1) := by decide +kernel
theorem dL_asks_256 : decode cL_asks 256 = .ok (.iload 4, 2) := by decide +kernel
theorem dL_asks_258 : decode cL_asks 258 = .ok (.invokevirtual 69, 3) := by decide +kernel
theorem dL_asks_263 : decode cL_asks 263 = .ok (.aload_n 0, 1) := by decide +kernel
theorem dL_asks_264 : decode cL_asks 264 = .ok (.iload 4, 2) := by decide +kernel
theorem dL_asks_266 : decode cL_asks 266 = .ok (.lload_n 2, 1) := by decide +kernel
theorem dL_asks_267 : decode cL_asks 267 = .ok (.iload 5, 2) := by decide +kernel
theorem dL_asks_269 : decode cL_asks 269 = .ok (.invokevirtual 73, 3) := by decide +kernel
theorem dL_asks_272 : decode cL_asks 272 = .ok (.lreturn, 1) := by decide +kernel
theorem dL_asks_273 : decode cL_asks 273 = .ok (.aload_n 0, 1) := by decide +kernel
theorem dL_asks_274 : decode cL_asks 274 = .ok (.iload 4, 2) := by decide +kernel
theorem dL_asks_276 : decode cL_asks 276 = .ok (.lload_n 2, 1) := by decide +kernel
theorem dL_asks_277 : decode cL_asks 277 = .ok (.iload 5, 2) := by decide +kernel
theorem dL_asks_279 : decode cL_asks 279 = .ok (.invokevirtual 77, 3) := by decide +kernel
theorem dL_asks_282 : decode cL_asks 282 = .ok (.lreturn, 1) := by decide +kernel
theorem dL_asks_283 : decode cL_asks 283 = .ok (.aload_n 0, 1) := by decide +kernel
theorem dL_asks_284 : decode cL_asks 284 = .ok (.iload 4, 2) := by decide +kernel
theorem dL_asks_286 : decode cL_asks 286 = .ok (.lload_n 2, 1) := by decide +kernel
theorem dL_asks_287 : decode cL_asks 287 = .ok (.iload 5, 2) := by decide +kernel
theorem dL_asks_289 : decode cL_asks 289 = .ok (.invokevirtual 80, 3) := by decide +kernel
theorem dL_asks_292 : decode cL_asks 292 = .ok (.lreturn, 1) := by decide +kernel
theorem dL_asks_293 : decode cL_asks 293 = .ok (.aload_n 0, 1) := by decide +kernel
theorem dL_asks_294 : decode cL_asks 294 = .ok (.iload 4, 2) := by decide +kernel
theorem dL_asks_296 : decode cL_asks 296 = .ok (.invokevirtual 83, 3) := by decide +kernel
theorem dL_asks_301 : decode cL_asks 301 = .ok (.aload_n 0, 1) := by decide +kernel
theorem dL_asks_302 : decode cL_asks 302 = .ok (.lload_n 2, 1) := by decide +kernel
theorem dL_asks_303 : decode cL_asks 303 = .ok (.iload 4, 2) := by decide +kernel
theorem dL_asks_305 : decode cL_asks 305 = .ok (.invokevirtual 86, 3) := by decide +kernel
theorem dL_asks_308 : decode cL_asks 308 = .ok (.lreturn, 1) := by decide +kernel
theorem dL_asks_309 : decode cL_asks 309 = .ok (.aload_n 0, 1) := by decide +kernel
theorem dL_asks_310 : decode cL_asks 310 = .ok (.lload_n 2, 1) := by decide +kernel
theorem dL_asks_311 : decode cL_asks 311 = .ok (.iload 4, 2) := by decide +kernel
theorem dL_asks_313 : decode cL_asks 313 = .ok (.invokevirtual 90, 3) := by decide +kernel
theorem dL_asks_318 : decode cL_asks 318 = .ok (.aload_n 0, 1) := by decide +kernel
theorem dL_asks_319 : decode cL_asks 319 = .ok (.lload_n 2, 1) := by decide +kernel
theorem dL_asks_320 : decode cL_asks 320 = .ok (.invokevirtual 94, 3) := by decide +kernel
theorem dL_asks_323 : decode cL_asks 323 = .ok (.lreturn, 1) := by decide +kernel
theorem dL_asks_324 : decode cL_asks 324 = .ok (.aload_n 0, 1) := by decide +kernel
theorem dL_asks_325 : decode cL_asks 325 = .ok (.lload_n 2, 1) := by decide +kernel
theorem dL_asks_326 : decode cL_asks 326 = .ok (.invokevirtual 98, 3) := by decide +kernel
theorem dL_asks_329 : decode cL_asks 329 = .ok (.lreturn, 1) := by decide +kernel
theorem dL_asks_330 : decode cL_asks 330 = .ok (.aload_n 0, 1) := by decide +kernel
theorem dL_asks_331 : decode cL_asks 331 = .ok (.lload_n 2, 1) := by decide +kernel
theorem dL_asks_332 : decode cL_asks 332 = .ok (.lload_n 2, 1) := by decide +kernel
theorem dL_asks_333 : decode cL_asks 333 = .ok (.iload 4, 2) := by decide +kernel
theorem dL_asks_335 : decode cL_asks 335 = .ok (.iload 5, 2) := by decide +kernel
theorem dL_asks_337 : decode cL_asks 337 = .ok (.i2l, 1) := by decide +kernel
theorem dL_asks_338 : decode cL_asks 338 = .ok (.invokevirtual 101, 3) := by decide +kernel
theorem dL_asks_341 : decode cL_asks 341 = .ok (.i2l, 1) := by decide +kernel
theorem dL_asks_342 : decode cL_asks 342 = .ok (.lreturn, 1) := by decide +kernel
theorem dL_asks_343 : decode cL_asks 343 = .ok (.aload_n 0, 1) := by decide +kernel
theorem dL_asks_344 : decode cL_asks 344 = .ok (.iload 4, 2) := by decide +kernel
theorem dL_asks_346 : decode cL_asks 346 = .ok (.invokevirtual 105, 3) := by decide +kernel
theorem dL_asks_351 : decode cL_asks 351 = .ok (.aload_n 0, 1) := by decide +kernel
theorem dL_asks_352 : decode cL_asks 352 = .ok (.iload 4, 2) := by decide +kernel
theorem dL_asks_354 : decode cL_asks 354 = .ok (.invokevirtual 108, 3) := by decide +kernel
theorem dL_asks_357 : decode cL_asks 357 = .ok (.lreturn, 1) := by decide +kernel
theorem dL_asks_358 : decode cL_asks 358 = .ok (.aload_n 0, 1) := by decide +kernel
theorem dL_asks_359 : decode cL_asks 359 = .ok (.iconst 0, 1) := by decide +kernel
theorem dL_asks_360 : decode cL_asks 360 = .ok (.iload 4, 2) := by decide +kernel
theorem dL_asks_362 : decode cL_asks 362 = .ok (.lload_n 2, 1) := by decide +kernel
theorem dL_asks_363 : decode cL_asks 363 = .ok (.iload 5, 2) := by decide +kernel
theorem dL_asks_365 : decode cL_asks 365 = .ok (.iconst 1, 1) := by decide +kernel
theorem dL_asks_366 : decode cL_asks 366 = .ok (.invokevirtual 111, 3) := by decide +kernel
theorem dL_asks_369 : decode cL_asks 369 = .ok (.lreturn, 1) := by decide +kernel
theorem dL_asks_370 : decode cL_asks 370 = .ok (.aload_n 0, 1) := by decide +kernel
theorem dL_asks_371 : decode cL_asks 371 = .ok (.iconst 0, 1) := by decide +kernel
theorem dL_asks_372 : decode cL_asks 372 = .ok (.iload 4, 2) := by decide +kernel
theorem dL_asks_374 : decode cL_asks 374 = .ok (.lload_n 2, 1) := by decide +kernel
theorem dL_asks_375 : decode cL_asks 375 = .ok (.iload 5, 2) := by decide +kernel
theorem dL_asks_377 : decode cL_asks 377 = .ok (.iconst 0, 1) := by decide +kernel
theorem dL_asks_378 : decode cL_asks 378 = .ok (.invokevirtual 111, 3) := by decide +kernel
theorem dL_asks_381 : decode cL_asks 381 = .ok (.lreturn, 1) := by decide +kernel
theorem dL_asks_382 : decode cL_asks 382 = .ok (.aload_n 0, 1) := by decide +kernel
theorem dL_asks_383 : decode cL_asks 383 = .ok (.invokevirtual 115, 3) := by decide +kernel
theorem dL_asks_386 : decode cL_asks 386 = .ok (.i2l, 1) := by decide +kernel
theorem dL_asks_387 : decode cL_asks 387 = .ok (.lreturn, 1) := by decide +kernel
theorem dL_asks_388 : decode cL_asks 388 = .ok (.aload_n 0, 1) := by decide +kernel
theorem dL_asks_389 : decode cL_asks 389 = .ok (.iload 4, 2) := by decide +kernel
theorem dL_asks_391 : decode cL_asks 391 = .ok (.invokevirtual 118, 3) := by decide +kernel
theorem dL_asks_394 : decode cL_asks 394 = .ok (.i2l, 1) := by decide +kernel
theorem dL_asks_395 : decode cL_asks 395 = .ok (.lreturn, 1) := by decide +kernel
theorem dL_asks_396 : decode cL_asks 396 = .ok (.astore 6, 2) := by decide +kernel
theorem dL_asks_398 : decode cL_asks 398 = .ok (.ldc2_w 123, 3) := by decide +kernel
theorem dL_asks_401 : decode cL_asks 401 = .ok (.lreturn, 1) := by decide +kernel
theorem dL_asks_402 : decode cL_asks 402 = .ok (.astore 6, 2) := by decide +kernel
theorem dL_asks_404 : decode cL_asks 404 = .ok (.ldc2_w 127, 3) := by decide +kernel
theorem dL_asks_407 : decode cL_asks 407 = .ok (.lreturn, 1) := by decide +kernel
theorem dL_asks_408 : decode cL_asks 408 = .ok (.astore 6, 2) := by decide +kernel
theorem dL_asks_410 : decode cL_asks 410 = .ok (.ldc2_w 131, 3) := by decide +kernel
theorem dL_asks_413 : decode cL_asks 413 = .ok (.lreturn, 1) := by decide +kernel
set_option maxRecDepth 20000 in
theorem ggL_asks_X9_accrued : GoodIn wsL_asks wsX9_accrued := goodIn_ca (goodIn_ca (goodIn_r _ [371, 57, 372, 16, 17, 18, 10, 19, 20, 21, 22, 23, 24, 25, 26, 27, 28, 29, 30, 31, 32, 33, 34, 35, 36, 37, 38, 39, 40, 41, 42, 43, 44, 45, 46, 47, 48, 49, 50, 554, 555, 556, 557, 558, 559, 560, 561, 562] (by decide +kernel) (by decide +kernel)) (goodIn_sub (fun _ h => List.mem_cons_of_mem _ (List.mem_append_left _ (List.mem_append_left _ (List.mem_append_right _ h)))) (by decide +kernel))) (goodIn_sub (fun _ h => List.mem_cons_of_mem _ (List.mem_append_left _ (List.mem_append_right _ h))) (by decide +kernel))
set_option maxRecDepth 20000 in
theorem gL_asks_X9_accrued : GoodIn wsL_asks (wsV RL 66 RX9 yX9_accrued wsX9_accrued) := goodIn_app (goodIn_of _ (by decide +kernel)) ggL_asks_X9_accrued
set_option maxRecDepth 20000 in
theorem ggL_asks_X9_amount : GoodIn wsL_asks wsX9_amount := goodIn_ca (goodIn_r _ [533, 55, 58, 17, 18, 10, 19, 20, 21, 22, 23, 24, 67, 68, 69, 62, 70, 64, 554, 555, 556, 557, 558, 559, 560, 561, 563, 564, 565] (by decide +kernel) (by decide +kernel)) (goodIn_sub (fun _ h => List.mem_cons_of_mem _ (List.mem_append_left _ (List.mem_append_left _ (List.mem_append_right _ h)))) (by decide +kernel))
set_option maxRecDepth 20000 in
theorem gL_asks_X9_amount : GoodIn wsL_asks (wsV RL 108 RX9 yX9_amount wsX9_amount) := goodIn_app (goodIn_of _ (by decide +kernel)) ggL_asks_X9_amount
set_option maxRecDepth 20000 in
theorem ggL_asks_X9_bondYield : GoodIn wsL_asks wsX9_bondYield := goodIn_ca (goodIn_r _ [513, 13, 349, 350, 351, 10, 352, 57, 55, 17, 18, 19, 20, 21, 22, 23, 24, 514, 515, 516, 356, 517, 518, 519, 520, 521, 522, 358, 359, 360, 361, 362, 363, 364, 109, 110, 111, 112, 113, 114, 115, 116, 117, 118, 119, 32, 120, 121, 122, 123, 124, 125, 126, 127, 128, 129, 130, 131, 132, 133, 134, 135, 136, 137, 138, 139, 140, 141, 142, 365, 144, 145, 146, 147, 148, 149, 150, 151, 152, 153, 154, 155, 156, 157, 158, 159, 160, 161, 162, 163, 164, 165, 166, 167, 168, 169, 170, 171, 172, 173, 174, 175, 176, 177, 95, 96, 366, 179, 180, 181, 182, 183, 184, 185, 186, 187, 523, 214, 215, 216, 205, 206, 207, 208, 554, 555, 556, 557, 558, 559, 560, 561, 583, 566, 567, 568, 569, 570, 571, 572, 573, 574] (by decide +kernel) (by decide +kernel)) (goodIn_sub (fun _ h => List.mem_cons_of_mem _ (List.mem_append_left _ (List.mem_append_left _ (List.mem_append_right _ h)))) (by decide +kernel))
set_option maxRecDepth 20000 in
theorem gL_asks_X9_bondYield : GoodIn wsL_asks (wsV RL 101 RX9 yX9_bondYield wsX9_bondYield) := goodIn_app (goodIn_of _ (by decide +kernel)) ggL_asks_X9_bondYield
set_option maxRecDepth 20000 in
theorem ggL_asks_X9_deathWorth : GoodIn wsL_asks wsX9_deathWorth := goodIn_ca (goodIn_ca (goodIn_ca (goodIn_r _ [418, 377, 16, 395, 396, 397, 10, 398, 57, 378, 17, 18, 19, 20, 21, 22, 23, 24, 86, 87, 88, 89, 331, 332, 333, 334, 335, 419, 420, 421, 382, 422, 403, 404, 386, 405, 423, 424, 425, 426, 384, 410, 109, 110, 111, 112, 113, 114, 115, 116, 117, 118, 119, 32, 120, 121, 122, 123, 124, 125, 126, 127, 128, 129, 130, 131, 132, 133, 134, 135, 136, 137, 138, 139, 140, 141, 142, 411, 144, 145, 146, 147, 148, 149, 150, 151, 152, 153, 154, 155, 156, 157, 158, 159, 160, 161, 162, 163, 164, 165, 166, 167, 168, 169, 170, 171, 172, 173, 174, 175, 176, 177, 95, 96, 412, 413, 179, 180, 181, 182, 183, 184, 185, 186, 187, 414, 190, 191, 28, 192, 193, 50, 194, 195, 196, 197, 198, 199, 200, 201, 202, 203, 204, 205, 206, 207, 208, 209, 210, 211, 212, 213, 214, 215, 216, 217, 218, 34, 35, 36, 37, 38, 39, 40, 41, 42, 43, 44, 45, 46, 47, 48, 49, 554, 555, 556, 557, 558, 559, 560, 561, 584, 585, 586, 587, 566, 567, 568, 569, 570, 571, 572, 573, 574, 562] (by decide +kernel) (by decide +kernel)) (goodIn_sub (fun _ h => List.mem_cons_of_mem _ (List.mem_append_left _ (List.mem_append_left _ (List.mem_append_right _ h)))) (by decide +kernel))) (goodIn_sub (fun _ h => List.mem_cons_of_mem _ (List.mem_append_right _ h)) (by decide +kernel))) (goodIn_sub (fun _ h => List.mem_cons_of_mem _ (List.mem_append_left _ (List.mem_append_right _ h))) (by decide +kernel))
set_option maxRecDepth 20000 in
theorem gL_asks_X9_deathWorth : GoodIn wsL_asks (wsV RL 77 RX9 yX9_deathWorth wsX9_deathWorth) := goodIn_app (goodIn_of _ (by decide +kernel)) ggL_asks_X9_deathWorth
set_option maxRecDepth 20000 in
theorem ggL_asks_X9_lifeWorth : GoodIn wsL_asks wsX9_lifeWorth := goodIn_ca (goodIn_ca (goodIn_ca (goodIn_r _ [394, 377, 16, 395, 396, 397, 10, 398, 57, 378, 17, 18, 19, 20, 21, 22, 23, 24, 86, 87, 88, 89, 331, 332, 333, 334, 335, 399, 400, 401, 382, 402, 403, 404, 386, 405, 406, 407, 408, 409, 384, 410, 109, 110, 111, 112, 113, 114, 115, 116, 117, 118, 119, 32, 120, 121, 122, 123, 124, 125, 126, 127, 128, 129, 130, 131, 132, 133, 134, 135, 136, 137, 138, 139, 140, 141, 142, 411, 144, 145, 146, 147, 148, 149, 150, 151, 152, 153, 154, 155, 156, 157, 158, 159, 160, 161, 162, 163, 164, 165, 166, 167, 168, 169, 170, 171, 172, 173, 174, 175, 176, 177, 95, 96, 412, 413, 179, 180, 181, 182, 183, 184, 185, 186, 187, 414, 190, 191, 28, 192, 193, 50, 194, 195, 196, 197, 198, 199, 200, 201, 202, 203, 204, 205, 206, 207, 208, 209, 210, 211, 212, 213, 214, 215, 216, 217, 218, 34, 35, 36, 37, 38, 39, 40, 41, 42, 43, 44, 45, 46, 47, 48, 49, 554, 555, 556, 557, 558, 559, 560, 561, 584, 585, 586, 587, 566, 567, 568, 569, 570, 571, 572, 573, 574, 562] (by decide +kernel) (by decide +kernel)) (goodIn_sub (fun _ h => List.mem_cons_of_mem _ (List.mem_append_left _ (List.mem_append_left _ (List.mem_append_right _ h)))) (by decide +kernel))) (goodIn_sub (fun _ h => List.mem_cons_of_mem _ (List.mem_append_right _ h)) (by decide +kernel))) (goodIn_sub (fun _ h => List.mem_cons_of_mem _ (List.mem_append_left _ (List.mem_append_right _ h))) (by decide +kernel))
set_option maxRecDepth 20000 in
theorem gL_asks_X9_lifeWorth : GoodIn wsL_asks (wsV RL 73 RX9 yX9_lifeWorth wsX9_lifeWorth) := goodIn_app (goodIn_of _ (by decide +kernel)) ggL_asks_X9_lifeWorth
set_option maxRecDepth 20000 in
theorem ggL_asks_X9_live : GoodIn wsL_asks wsX9_live := goodIn_ca (goodIn_ca (goodIn_r _ [376, 377, 378, 379, 380, 381, 382, 383, 384, 385, 386, 17, 18, 10, 19, 20, 21, 22, 23, 24, 227, 42, 43, 44, 45, 387, 388, 389, 390, 554, 555, 556, 557, 558, 559, 560, 561, 584, 585, 586, 587] (by decide +kernel) (by decide +kernel)) (goodIn_sub (fun _ h => List.mem_cons_of_mem _ (List.mem_append_left _ (List.mem_append_left _ (List.mem_append_right _ h)))) (by decide +kernel))) (goodIn_sub (fun _ h => List.mem_cons_of_mem _ (List.mem_append_left _ (List.mem_append_right _ h))) (by decide +kernel))
set_option maxRecDepth 20000 in
theorem gL_asks_X9_live : GoodIn wsL_asks (wsV RL 69 RX9 yX9_live wsX9_live) := goodIn_app (goodIn_of _ (by decide +kernel)) ggL_asks_X9_live
set_option maxRecDepth 20000 in
theorem ggL_asks_X9_part : GoodIn wsL_asks wsX9_part := goodIn_ca (goodIn_ca (goodIn_r _ [453, 13, 441, 442, 17, 18, 10, 19, 20, 21, 22, 23, 24, 331, 332, 333, 334, 335, 454, 455, 456, 446, 457, 449, 448, 458, 459, 460, 461, 462, 554, 555, 556, 557, 558, 559, 560, 561, 588, 589] (by decide +kernel) (by decide +kernel)) (goodIn_sub (fun _ h => List.mem_cons_of_mem _ (List.mem_append_left _ (List.mem_append_left _ (List.mem_append_right _ h)))) (by decide +kernel))) (goodIn_sub (fun _ h => List.mem_cons_of_mem _ (List.mem_append_right _ h)) (by decide +kernel))
set_option maxRecDepth 20000 in
theorem gL_asks_X9_part : GoodIn wsL_asks (wsV RL 86 RX9 yX9_part wsX9_part) := goodIn_app (goodIn_of _ (by decide +kernel)) ggL_asks_X9_part
set_option maxRecDepth 20000 in
theorem ggL_asks_X9_pay : GoodIn wsL_asks wsX9_pay := goodIn_ca (goodIn_ca (goodIn_r _ [54, 55, 56, 57, 58, 17, 18, 10, 19, 20, 21, 22, 23, 24, 59, 60, 61, 62, 63, 64, 65, 66, 42, 43, 44, 45, 67, 68, 69, 70, 554, 555, 556, 557, 558, 559, 560, 561, 563, 564, 565] (by decide +kernel) (by decide +kernel)) (goodIn_sub (fun _ h => List.mem_cons_of_mem _ (List.mem_append_left _ (List.mem_append_left _ (List.mem_append_right _ h)))) (by decide +kernel))) (goodIn_sub (fun _ h => List.mem_cons_of_mem _ (List.mem_append_left _ (List.mem_append_right _ h))) (by decide +kernel))
set_option maxRecDepth 20000 in
theorem gL_asks_X9_pay : GoodIn wsL_asks (wsV RL 23 RX9 yX9_pay wsX9_pay) := goodIn_app (goodIn_of _ (by decide +kernel)) ggL_asks_X9_pay
set_option maxRecDepth 20000 in
theorem ggL_asks_X9_payMany : GoodIn wsL_asks wsX9_payMany := goodIn_ca (goodIn_ca (goodIn_r _ [74, 55, 75, 56, 57, 76, 77, 58, 17, 18, 10, 19, 20, 21, 22, 23, 24, 59, 60, 61, 62, 63, 64, 65, 66, 42, 43, 44, 45, 78, 79, 80, 81, 554, 555, 556, 557, 558, 559, 560, 561, 563, 564, 565] (by decide +kernel) (by decide +kernel)) (goodIn_sub (fun _ h => List.mem_cons_of_mem _ (List.mem_append_left _ (List.mem_append_left _ (List.mem_append_right _ h)))) (by decide +kernel))) (goodIn_sub (fun _ h => List.mem_cons_of_mem _ (List.mem_append_left _ (List.mem_append_right _ h))) (by decide +kernel))
set_option maxRecDepth 20000 in
theorem gL_asks_X9_payMany : GoodIn wsL_asks (wsV RL 27 RX9 yX9_payMany wsX9_payMany) := goodIn_app (goodIn_of _ (by decide +kernel)) ggL_asks_X9_payMany
set_option maxRecDepth 20000 in
theorem ggL_asks_X9_premium : GoodIn wsL_asks wsX9_premium := goodIn_ca (goodIn_ca (goodIn_ca (goodIn_r _ [430, 377, 16, 395, 396, 397, 10, 398, 57, 378, 17, 18, 19, 20, 21, 22, 23, 24, 86, 87, 88, 89, 331, 332, 333, 334, 335, 431, 432, 433, 382, 434, 403, 435, 404, 436, 423, 424, 425, 426, 384, 386, 410, 109, 110, 111, 112, 113, 114, 115, 116, 117, 118, 119, 32, 120, 121, 122, 123, 124, 125, 126, 127, 128, 129, 130, 131, 132, 133, 134, 135, 136, 137, 138, 139, 140, 141, 142, 411, 144, 145, 146, 147, 148, 149, 150, 151, 152, 153, 154, 155, 156, 157, 158, 159, 160, 161, 162, 163, 164, 165, 166, 167, 168, 169, 170, 171, 172, 173, 174, 175, 176, 177, 95, 96, 406, 407, 408, 409, 412, 414, 190, 191, 28, 192, 193, 50, 194, 195, 196, 197, 198, 199, 200, 201, 202, 203, 204, 205, 206, 207, 208, 209, 210, 211, 212, 187, 213, 214, 215, 216, 217, 218, 34, 35, 36, 37, 38, 39, 40, 41, 42, 43, 44, 45, 46, 47, 48, 49, 554, 555, 556, 557, 558, 559, 560, 561, 584, 585, 586, 587, 566, 567, 568, 569, 570, 571, 572, 573, 574, 562] (by decide +kernel) (by decide +kernel)) (goodIn_sub (fun _ h => List.mem_cons_of_mem _ (List.mem_append_left _ (List.mem_append_left _ (List.mem_append_right _ h)))) (by decide +kernel))) (goodIn_sub (fun _ h => List.mem_cons_of_mem _ (List.mem_append_right _ h)) (by decide +kernel))) (goodIn_sub (fun _ h => List.mem_cons_of_mem _ (List.mem_append_left _ (List.mem_append_right _ h))) (by decide +kernel))
set_option maxRecDepth 20000 in
theorem gL_asks_X9_premium : GoodIn wsL_asks (wsV RL 80 RX9 yX9_premium wsX9_premium) := goodIn_app (goodIn_of _ (by decide +kernel)) ggL_asks_X9_premium
set_option maxRecDepth 20000 in
theorem ggL_asks_X9_price : GoodIn wsL_asks wsX9_price := goodIn_ca (goodIn_ca (goodIn_r _ [348, 349, 16, 350, 351, 10, 352, 57, 55, 17, 18, 19, 20, 21, 22, 23, 24, 86, 87, 88, 89, 353, 354, 355, 356, 357, 358, 359, 360, 361, 362, 363, 364, 109, 110, 111, 112, 113, 114, 115, 116, 117, 118, 119, 32, 120, 121, 122, 123, 124, 125, 126, 127, 128, 129, 130, 131, 132, 133, 134, 135, 136, 137, 138, 139, 140, 141, 142, 365, 144, 145, 146, 147, 148, 149, 150, 151, 152, 153, 154, 155, 156, 157, 158, 159, 160, 161, 162, 163, 164, 165, 166, 167, 168, 169, 170, 171, 172, 173, 174, 175, 176, 177, 95, 96, 366, 179, 180, 181, 182, 183, 184, 185, 186, 187, 367, 190, 191, 28, 192, 193, 50, 194, 195, 196, 197, 198, 199, 200, 201, 202, 203, 204, 205, 206, 207, 208, 209, 210, 211, 212, 213, 214, 215, 216, 217, 218, 34, 35, 36, 37, 38, 39, 40, 41, 42, 43, 44, 45, 46, 47, 48, 49, 554, 555, 556, 557, 558, 559, 560, 561, 583, 566, 567, 568, 569, 570, 571, 572, 573, 574, 562] (by decide +kernel) (by decide +kernel)) (goodIn_sub (fun _ h => List.mem_cons_of_mem _ (List.mem_append_left _ (List.mem_append_left _ (List.mem_append_right _ h)))) (by decide +kernel))) (goodIn_sub (fun _ h => List.mem_cons_of_mem _ (List.mem_append_left _ (List.mem_append_right _ h))) (by decide +kernel))
set_option maxRecDepth 20000 in
theorem gL_asks_X9_price : GoodIn wsL_asks (wsV RL 62 RX9 yX9_price wsX9_price) := goodIn_app (goodIn_of _ (by decide +kernel)) ggL_asks_X9_price
set_option maxRecDepth 20000 in
theorem ggL_asks_X9_reserve : GoodIn wsL_asks wsX9_reserve := goodIn_ca (goodIn_ca (goodIn_ca (goodIn_r _ [537, 377, 378, 16, 20, 21, 10, 22, 23, 24, 395, 396, 397, 398, 57, 17, 18, 19, 86, 87, 88, 89, 331, 332, 333, 334, 335, 538, 539, 540, 382, 541, 403, 435, 404, 386, 436, 542, 406, 407, 408, 409, 384, 410, 109, 110, 111, 112, 113, 114, 115, 116, 117, 118, 119, 32, 120, 121, 122, 123, 124, 125, 126, 127, 128, 129, 130, 131, 132, 133, 134, 135, 136, 137, 138, 139, 140, 141, 142, 411, 144, 145, 146, 147, 148, 149, 150, 151, 152, 153, 154, 155, 156, 157, 158, 159, 160, 161, 162, 163, 164, 165, 166, 167, 168, 169, 170, 171, 172, 173, 174, 175, 176, 177, 95, 96, 412, 543, 184, 185, 186, 187, 544, 414, 190, 191, 28, 192, 193, 50, 194, 195, 196, 197, 198, 199, 200, 201, 202, 203, 204, 205, 206, 207, 208, 209, 210, 211, 212, 213, 214, 215, 216, 217, 218, 34, 35, 36, 37, 38, 39, 40, 41, 42, 43, 44, 45, 46, 47, 48, 49, 554, 555, 556, 557, 558, 559, 560, 561, 584, 585, 586, 587, 566, 567, 568, 569, 570, 571, 572, 573, 574, 562] (by decide +kernel) (by decide +kernel)) (goodIn_sub (fun _ h => List.mem_cons_of_mem _ (List.mem_append_left _ (List.mem_append_left _ (List.mem_append_right _ h)))) (by decide +kernel))) (goodIn_sub (fun _ h => List.mem_cons_of_mem _ (List.mem_append_right _ h)) (by decide +kernel))) (goodIn_sub (fun _ h => List.mem_cons_of_mem _ (List.mem_append_left _ (List.mem_append_right _ h))) (by decide +kernel))
set_option maxRecDepth 20000 in
theorem gL_asks_X9_reserve : GoodIn wsL_asks (wsV RL 111 RX9 yX9_reserve wsX9_reserve) := goodIn_app (goodIn_of _ (by decide +kernel)) ggL_asks_X9_reserve
set_option maxRecDepth 20000 in
theorem ggL_asks_X9_round : GoodIn wsL_asks wsX9_round := goodIn_ca (goodIn_ca (goodIn_r _ [11, 12, 13, 14, 15, 16, 17, 18, 10, 19, 20, 21, 22, 23, 24, 25, 26, 27, 28, 29, 30, 31, 32, 33, 34, 35, 36, 37, 38, 39, 40, 41, 42, 43, 44, 45, 46, 47, 48, 49, 50, 554, 555, 556, 557, 558, 559, 560, 561, 562] (by decide +kernel) (by decide +kernel)) (goodIn_sub (fun _ h => List.mem_cons_of_mem _ (List.mem_append_left _ (List.mem_append_left _ (List.mem_append_right _ h)))) (by decide +kernel))) (goodIn_sub (fun _ h => List.mem_cons_of_mem _ (List.mem_append_left _ (List.mem_append_right _ h))) (by decide +kernel))
set_option maxRecDepth 20000 in
theorem gL_asks_X9_round : GoodIn wsL_asks (wsV RL 19 RX9 yX9_round wsX9_round) := goodIn_app (goodIn_of _ (by decide +kernel)) ggL_asks_X9_round
set_option maxRecDepth 20000 in
theorem ggL_asks_X9_rowOf : GoodIn wsL_asks wsX9_rowOf := goodIn_ca (goodIn_ca (goodIn_ca (goodIn_r _ [330, 14, 248, 314, 297, 298, 299, 10, 300, 296, 227, 42, 43, 44, 45, 17, 18, 19, 20, 21, 22, 23, 24, 331, 332, 333, 334, 335, 288, 289, 290, 252, 291, 265, 554, 555, 556, 557, 558, 559, 560, 561, 575, 576, 577, 578, 579, 580, 581, 582] (by decide +kernel) (by decide +kernel)) (goodIn_sub (fun _ h => List.mem_cons_of_mem _ (List.mem_append_left _ (List.mem_append_right _ h))) (by decide +kernel))) (goodIn_sub (fun _ h => List.mem_cons_of_mem _ (List.mem_append_left _ (List.mem_append_left _ (List.mem_append_right _ h)))) (by decide +kernel))) (goodIn_sub (fun _ h => List.mem_cons_of_mem _ (List.mem_append_right _ h)) (by decide +kernel))
set_option maxRecDepth 20000 in
theorem gL_asks_X9_rowOf : GoodIn wsL_asks (wsV RL 55 RX9 yX9_rowOf wsX9_rowOf) := goodIn_app (goodIn_of _ (by decide +kernel)) ggL_asks_X9_rowOf
set_option maxRecDepth 20000 in
theorem ggL_asks_X9_rowYield : GoodIn wsL_asks wsX9_rowYield := goodIn_ca (goodIn_r _ [222, 58, 223, 224, 225, 62, 226, 64, 227, 42, 10, 43, 44, 45, 228, 229, 230, 231, 232, 233, 234, 235, 236, 237, 238, 239, 240, 97, 99, 100, 101, 102, 103, 104, 105, 106, 107, 108, 109, 110, 111, 112, 113, 114, 115, 116, 117, 118, 119, 32, 120, 121, 122, 123, 124, 125, 126, 127, 128, 129, 130, 131, 132, 133, 134, 135, 136, 137, 138, 139, 140, 141, 142, 143, 144, 145, 146, 147, 148, 149, 150, 151, 152, 153, 154, 155, 156, 157, 158, 159, 160, 161, 162, 163, 164, 165, 166, 167, 168, 169, 170, 171, 172, 173, 174, 175, 176, 177, 95, 96, 241, 195, 196, 197, 554, 555, 556, 557, 558, 559, 560, 561, 563, 564, 565, 566, 567, 568, 569, 570, 571, 572, 573, 574] (by decide +kernel) (by decide +kernel)) (goodIn_sub (fun _ h => List.mem_cons_of_mem _ (List.mem_append_left _ (List.mem_append_right _ h))) (by decide +kernel))
set_option maxRecDepth 20000 in
theorem gL_asks_X9_rowYield : GoodIn wsL_asks (wsV RL 35 RX9 yX9_rowYield wsX9_rowYield) := goodIn_app (goodIn_of _ (by decide +kernel)) ggL_asks_X9_rowYield
set_option maxRecDepth 20000 in
theorem ggL_asks_X9_rows : GoodIn wsL_asks wsX9_rows := goodIn_ca (goodIn_r _ [548, 248, 314, 297, 298, 299, 10, 300, 296, 227, 42, 43, 44, 45, 554, 555, 556, 557, 558, 559, 560, 561, 575, 576, 577, 578, 579, 580, 581, 582] (by decide +kernel) (by decide +kernel)) (goodIn_sub (fun _ h => List.mem_cons_of_mem _ (List.mem_append_left _ (List.mem_append_right _ h))) (by decide +kernel))
set_option maxRecDepth 20000 in
theorem gL_asks_X9_rows : GoodIn wsL_asks (wsV RL 115 RX9 yX9_rows wsX9_rows) := goodIn_app (goodIn_of _ (by decide +kernel)) ggL_asks_X9_rows
set_option maxRecDepth 20000 in
theorem ggL_asks_X9_setMode : GoodIn wsL_asks wsX9_setMode := goodIn_ca (goodIn_r _ [527, 528, 16, 529, 17, 18, 10, 19, 20, 21, 22, 23, 24, 554, 555, 556, 557, 558, 559, 560, 561, 562] (by decide +kernel) (by decide +kernel)) (goodIn_sub (fun _ h => List.mem_cons_of_mem _ (List.mem_append_left _ (List.mem_append_left _ (List.mem_append_right _ h)))) (by decide +kernel))
set_option maxRecDepth 20000 in
theorem gL_asks_X9_setMode : GoodIn wsL_asks (wsV RL 105 RX9 yX9_setMode wsX9_setMode) := goodIn_app (goodIn_of _ (by decide +kernel)) ggL_asks_X9_setMode
set_option maxRecDepth 20000 in
theorem ggL_asks_X9_signAt : GoodIn wsL_asks wsX9_signAt := goodIn_ca (goodIn_r _ [552, 58, 86, 87, 10, 88, 89, 17, 18, 19, 20, 21, 22, 23, 24, 553, 238, 239, 62, 240, 97, 99, 100, 101, 102, 103, 64, 104, 105, 106, 107, 108, 109, 110, 111, 112, 113, 114, 115, 116, 117, 118, 119, 32, 120, 121, 122, 123, 124, 125, 126, 127, 128, 129, 130, 131, 132, 133, 134, 135, 136, 137, 138, 139, 140, 141, 142, 143, 144, 145, 146, 147, 148, 149, 150, 151, 152, 153, 154, 155, 156, 157, 158, 159, 160, 161, 162, 163, 164, 165, 166, 167, 168, 169, 170, 171, 172, 173, 174, 175, 176, 177, 95, 96, 241, 195, 196, 197, 554, 555, 556, 557, 558, 559, 560, 561, 563, 564, 565, 566, 567, 568, 569, 570, 571, 572, 573, 574] (by decide +kernel) (by decide +kernel)) (goodIn_sub (fun _ h => List.mem_cons_of_mem _ (List.mem_append_left _ (List.mem_append_left _ (List.mem_append_right _ h)))) (by decide +kernel))
set_option maxRecDepth 20000 in
theorem gL_asks_X9_signAt : GoodIn wsL_asks (wsV RL 118 RX9 yX9_signAt wsX9_signAt) := goodIn_app (goodIn_of _ (by decide +kernel)) ggL_asks_X9_signAt
set_option maxRecDepth 20000 in
theorem ggL_asks_X9_step : GoodIn wsL_asks wsX9_step := goodIn_ca (goodIn_ca (goodIn_r _ [466, 467, 57, 468, 469, 470, 471, 472, 473, 474, 475, 476, 17, 18, 10, 19, 20, 21, 22, 23, 24, 227, 42, 43, 44, 45, 477, 478, 479, 480, 481, 554, 555, 556, 557, 558, 559, 560, 561, 590, 591, 592] (by decide +kernel) (by decide +kernel)) (goodIn_sub (fun _ h => List.mem_cons_of_mem _ (List.mem_append_left _ (List.mem_append_left _ (List.mem_append_right _ h)))) (by decide +kernel))) (goodIn_sub (fun _ h => List.mem_cons_of_mem _ (List.mem_append_left _ (List.mem_append_right _ h))) (by decide +kernel))
set_option maxRecDepth 20000 in
theorem gL_asks_X9_step : GoodIn wsL_asks (wsV RL 90 RX9 yX9_step wsX9_step) := goodIn_app (goodIn_of _ (by decide +kernel)) ggL_asks_X9_step
set_option maxRecDepth 20000 in
theorem ggL_asks_X9_tax : GoodIn wsL_asks wsX9_tax := goodIn_ca (goodIn_ca (goodIn_r _ [485, 13, 16, 467, 468, 17, 18, 10, 19, 20, 21, 22, 23, 24, 486, 487, 488, 473, 489, 475, 476, 490, 282, 32, 283, 491, 119, 120, 481, 25, 26, 27, 28, 29, 30, 31, 33, 34, 35, 36, 37, 38, 39, 40, 41, 42, 43, 44, 45, 46, 47, 48, 49, 50, 554, 555, 556, 557, 558, 559, 560, 561, 590, 591, 592, 562] (by decide +kernel) (by decide +kernel)) (goodIn_sub (fun _ h => List.mem_cons_of_mem _ (List.mem_append_left _ (List.mem_append_left _ (List.mem_append_right _ h)))) (by decide +kernel))) (goodIn_sub (fun _ h => List.mem_cons_of_mem _ (List.mem_append_left _ (List.mem_append_right _ h))) (by decide +kernel))
set_option maxRecDepth 20000 in
theorem gL_asks_X9_tax : GoodIn wsL_asks (wsV RL 94 RX9 yX9_tax wsX9_tax) := goodIn_app (goodIn_of _ (by decide +kernel)) ggL_asks_X9_tax
set_option maxRecDepth 20000 in
theorem ggL_asks_X9_total : GoodIn wsL_asks wsX9_total := goodIn_ca (goodIn_ca (goodIn_r _ [339, 340, 248, 297, 298, 299, 10, 300, 296, 227, 42, 43, 44, 45, 17, 18, 19, 20, 21, 22, 23, 24, 341, 342, 343, 252, 344, 263, 265, 554, 555, 556, 557, 558, 559, 560, 561, 575, 576, 577, 578, 579, 580, 581, 582] (by decide +kernel) (by decide +kernel)) (goodIn_sub (fun _ h => List.mem_cons_of_mem _ (List.mem_append_left _ (List.mem_append_right _ h))) (by decide +kernel))) (goodIn_sub (fun _ h => List.mem_cons_of_mem _ (List.mem_append_left _ (List.mem_append_left _ (List.mem_append_right _ h)))) (by decide +kernel))
set_option maxRecDepth 20000 in
theorem gL_asks_X9_total : GoodIn wsL_asks (wsV RL 58 RX9 yX9_total wsX9_total) := goodIn_app (goodIn_of _ (by decide +kernel)) ggL_asks_X9_total
set_option maxRecDepth 20000 in
theorem ggL_asks_X9_untaxed : GoodIn wsL_asks wsX9_untaxed := goodIn_ca (goodIn_r _ [495, 57, 467, 17, 18, 10, 19, 20, 21, 22, 23, 24, 496, 497, 498, 473, 499, 500, 501, 502, 503, 504, 505, 506, 507, 508, 509, 487, 488, 489, 475, 476, 490, 282, 32, 283, 491, 119, 120, 481, 554, 555, 556, 557, 558, 559, 560, 561, 590, 591, 592] (by decide +kernel) (by decide +kernel)) (goodIn_sub (fun _ h => List.mem_cons_of_mem _ (List.mem_append_left _ (List.mem_append_left _ (List.mem_append_right _ h)))) (by decide +kernel))
set_option maxRecDepth 20000 in
theorem gL_asks_X9_untaxed : GoodIn wsL_asks (wsV RL 98 RX9 yX9_untaxed wsX9_untaxed) := goodIn_app (goodIn_of _ (by decide +kernel)) ggL_asks_X9_untaxed
set_option maxRecDepth 20000 in
theorem ggL_asks_X9_weigh : GoodIn wsL_asks wsX9_weigh := goodIn_ca (goodIn_ca (goodIn_r _ [440, 77, 441, 442, 17, 18, 10, 19, 20, 21, 22, 23, 24, 227, 42, 43, 44, 45, 443, 444, 445, 446, 447, 448, 449, 554, 555, 556, 557, 558, 559, 560, 561, 588, 589] (by decide +kernel) (by decide +kernel)) (goodIn_sub (fun _ h => List.mem_cons_of_mem _ (List.mem_append_left _ (List.mem_append_left _ (List.mem_append_right _ h)))) (by decide +kernel))) (goodIn_sub (fun _ h => List.mem_cons_of_mem _ (List.mem_append_left _ (List.mem_append_right _ h))) (by decide +kernel))
set_option maxRecDepth 20000 in
theorem gL_asks_X9_weigh : GoodIn wsL_asks (wsV RL 83 RX9 yX9_weigh wsX9_weigh) := goodIn_app (goodIn_of _ (by decide +kernel)) ggL_asks_X9_weigh
set_option maxRecDepth 20000 in
theorem ggL_asks_X9_worth : GoodIn wsL_asks wsX9_worth := goodIn_ca (goodIn_ca (goodIn_r _ [85, 55, 58, 16, 17, 18, 10, 19, 20, 21, 22, 23, 24, 86, 87, 88, 89, 90, 91, 92, 62, 93, 94, 95, 32, 96, 97, 98, 99, 100, 101, 102, 103, 64, 104, 105, 106, 107, 108, 109, 110, 111, 112, 113, 114, 115, 116, 117, 118, 119, 120, 121, 122, 123, 124, 125, 126, 127, 128, 129, 130, 131, 132, 133, 134, 135, 136, 137, 138, 139, 140, 141, 142, 143, 144, 145, 146, 147, 148, 149, 150, 151, 152, 153, 154, 155, 156, 157, 158, 159, 160, 161, 162, 163, 164, 165, 166, 167, 168, 169, 170, 171, 172, 173, 174, 175, 176, 177, 178, 179, 180, 181, 182, 183, 184, 185, 186, 187, 188, 189, 190, 191, 28, 192, 193, 50, 194, 195, 196, 197, 198, 199, 200, 201, 202, 203, 204, 205, 206, 207, 208, 209, 210, 211, 212, 213, 214, 215, 216, 217, 218, 34, 35, 36, 37, 38, 39, 40, 41, 42, 43, 44, 45, 46, 47, 48, 49, 554, 555, 556, 557, 558, 559, 560, 561, 563, 564, 565, 566, 567, 568, 569, 570, 571, 572, 573, 574, 562] (by decide +kernel) (by decide +kernel)) (goodIn_sub (fun _ h => List.mem_cons_of_mem _ (List.mem_append_left _ (List.mem_append_left _ (List.mem_append_right _ h)))) (by decide +kernel))) (goodIn_sub (fun _ h => List.mem_cons_of_mem _ (List.mem_append_left _ (List.mem_append_right _ h))) (by decide +kernel))
set_option maxRecDepth 20000 in
theorem gL_asks_X9_worth : GoodIn wsL_asks (wsV RL 31 RX9 yX9_worth wsX9_worth) := goodIn_app (goodIn_of _ (by decide +kernel)) ggL_asks_X9_worth
