-- printed rows that the walks use
theorem dL_isBond_0 : decode cL_isBond 0 = .ok (.aload_n 1, 1) := by decide +kernel
theorem dL_isBond_1 : decode cL_isBond 1 = .ok (.iconst 3, 1) := by decide +kernel
theorem dL_isBond_102 : decode cL_isBond 102 = .ok (.goto (-30), 3) := by decide +kernel
theorem dL_isBond_105 : decode cL_isBond 105 = .ok (.aload_n 0, 1) := by decide +kernel
theorem dL_isBond_106 : decode cL_isBond 106 = .ok (.aload 8, 2) := by decide +kernel
theorem dL_isBond_108 : decode cL_isBond 108 = .ok (.invokestatic 170, 3) := by decide +kernel
theorem dL_isBond_11 : decode cL_isBond 11 = .ok (.invokestatic 13, 3) := by decide +kernel
theorem dL_isBond_111 : decode cL_isBond 111 = .ok (.aload_n 0, 1) := by decide +kernel
theorem dL_isBond_112 : decode cL_isBond 112 = .ok (.iconst 3, 1) := by decide +kernel
theorem dL_isBond_113 : decode cL_isBond 113 = .ok (.invokevirtual 105, 3) := by decide +kernel
theorem dL_isBond_116 : decode cL_isBond 116 = .ok (.istore 9, 2) := by decide +kernel
theorem dL_isBond_118 : decode cL_isBond 118 = .ok (.aload_n 0, 1) := by decide +kernel
theorem dL_isBond_119 : decode cL_isBond 119 = .ok (.lload_n 2, 1) := by decide +kernel
theorem dL_isBond_120 : decode cL_isBond 120 = .ok (.lload 4, 2) := by decide +kernel
theorem dL_isBond_122 : decode cL_isBond 122 = .ok (.iload 6, 2) := by decide +kernel
theorem dL_isBond_124 : decode cL_isBond 124 = .ok (.iload 7, 2) := by decide +kernel
theorem dL_isBond_126 : decode cL_isBond 126 = .ok (.invokevirtual 62, 3) := by decide +kernel
theorem dL_isBond_129 : decode cL_isBond 129 = .ok (.aload_n 0, 1) := by decide +kernel
theorem dL_isBond_130 : decode cL_isBond 130 = .ok (.iconst 0, 1) := by decide +kernel
theorem dL_isBond_131 : decode cL_isBond 131 = .ok (.iload 7, 2) := by decide +kernel
theorem dL_isBond_133 : decode cL_isBond 133 = .ok (.invokevirtual 31, 3) := by decide +kernel
theorem dL_isBond_136 : decode cL_isBond 136 = .ok (.lcmp, 1) := by decide +kernel
theorem dL_isBond_137 : decode cL_isBond 137 = .ok (.ifCond .eq 5, 3) := by decide +kernel
theorem dL_isBond_14 : decode cL_isBond 14 = .ok (.i2l, 1) := by decide +kernel
theorem dL_isBond_142 : decode cL_isBond 142 = .ok (.aload_n 0, 1) := by decide +kernel
theorem dL_isBond_143 : decode cL_isBond 143 = .ok (.iload 9, 2) := by decide +kernel
theorem dL_isBond_145 : decode cL_isBond 145 = .ok (.invokevirtual 105, 3) := by decide +kernel
theorem dL_isBond_148 : decode cL_isBond 148 = .ok (.istore 9, 2) := by decide +kernel
theorem dL_isBond_15 : decode cL_isBond 15 = .ok (.goto 10, 3) := by decide +kernel
theorem dL_isBond_150 : decode cL_isBond 150 = .ok (.iload 9, 2) := by decide +kernel
theorem dL_isBond_152 : decode cL_isBond 152 = .ok (.iconst 3, 1) := by decide +kernel
theorem dL_isBond_153 : decode cL_isBond 153 = .ok (.if_icmp .eq 5, 3) := by decide +kernel
theorem dL_isBond_158 : decode cL_isBond 158 = .ok (.aload_n 1, 1) := by decide +kernel
theorem dL_isBond_159 : decode cL_isBond 159 = .ok (.iconst 3, 1) := by decide +kernel
theorem dL_isBond_160 : decode cL_isBond 160 = .ok (.invokestatic 13, 3) := by decide +kernel
theorem dL_isBond_163 : decode cL_isBond 163 = .ok (.ifCond .ne 13, 3) := by decide +kernel
theorem dL_isBond_166 : decode cL_isBond 166 = .ok (.aload_n 1, 1) := by decide +kernel
theorem dL_isBond_167 : decode cL_isBond 167 = .ok (.ldc 165, 2) := by decide +kernel
theorem dL_isBond_169 : decode cL_isBond 169 = .ok (.invokestatic 13, 3) := by decide +kernel
theorem dL_isBond_172 : decode cL_isBond 172 = .ok (.i2l, 1) := by decide +kernel
theorem dL_isBond_173 : decode cL_isBond 173 = .ok (.goto 23, 3) := by decide +kernel
theorem dL_isBond_176 : decode cL_isBond 176 = .ok (.lload_n 2, 1) := by decide +kernel
theorem dL_isBond_177 : decode cL_isBond 177 = .ok (.iload 6, 2) := by decide +kernel
theorem dL_isBond_179 : decode cL_isBond 179 = .ok (.i2l, 1) := by decide +kernel
theorem dL_isBond_18 : decode cL_isBond 18 = .ok (.aload_n 1, 1) := by decide +kernel
theorem dL_isBond_180 : decode cL_isBond 180 = .ok (.lmul, 1) := by decide +kernel
theorem dL_isBond_181 : decode cL_isBond 181 = .ok (.lload 4, 2) := by decide +kernel
theorem dL_isBond_183 : decode cL_isBond 183 = .ok (.ladd, 1) := by decide +kernel
theorem dL_isBond_184 : decode cL_isBond 184 = .ok (.aload_n 1, 1) := by decide +kernel
theorem dL_isBond_185 : decode cL_isBond 185 = .ok (.bipush 110, 2) := by decide +kernel
theorem dL_isBond_187 : decode cL_isBond 187 = .ok (.invokestatic 13, 3) := by decide +kernel
theorem dL_isBond_19 : decode cL_isBond 19 = .ok (.ldc 223, 2) := by decide +kernel
theorem dL_isBond_190 : decode cL_isBond 190 = .ok (.i2l, 1) := by decide +kernel
theorem dL_isBond_191 : decode cL_isBond 191 = .ok (.lmul, 1) := by decide +kernel
theorem dL_isBond_192 : decode cL_isBond 192 = .ok (.ldc2_w 225, 3) := by decide +kernel
theorem dL_isBond_195 : decode cL_isBond 195 = .ok (.ldiv, 1) := by decide +kernel
theorem dL_isBond_196 : decode cL_isBond 196 = .ok (.lstore 10, 2) := by decide +kernel
theorem dL_isBond_198 : decode cL_isBond 198 = .ok (.aload_n 0, 1) := by decide +kernel
theorem dL_isBond_199 : decode cL_isBond 199 = .ok (.lload_n 2, 1) := by decide +kernel
theorem dL_isBond_2 : decode cL_isBond 2 = .ok (.invokestatic 13, 3) := by decide +kernel
theorem dL_isBond_200 : decode cL_isBond 200 = .ok (.lload 4, 2) := by decide +kernel
theorem dL_isBond_202 : decode cL_isBond 202 = .ok (.iload 6, 2) := by decide +kernel
theorem dL_isBond_204 : decode cL_isBond 204 = .ok (.lload 10, 2) := by decide +kernel
theorem dL_isBond_206 : decode cL_isBond 206 = .ok (.invokevirtual 101, 3) := by decide +kernel
theorem dL_isBond_209 : decode cL_isBond 209 = .ok (.i2l, 1) := by decide +kernel
theorem dL_isBond_21 : decode cL_isBond 21 = .ok (.invokestatic 13, 3) := by decide +kernel
theorem dL_isBond_210 : decode cL_isBond 210 = .ok (.lstore 12, 2) := by decide +kernel
theorem dL_isBond_212 : decode cL_isBond 212 = .ok (.lload 10, 2) := by decide +kernel
theorem dL_isBond_214 : decode cL_isBond 214 = .ok (.ldc2_w 227, 3) := by decide +kernel
theorem dL_isBond_217 : decode cL_isBond 217 = .ok (.lcmp, 1) := by decide +kernel
theorem dL_isBond_218 : decode cL_isBond 218 = .ok (.ifCond .le 16, 3) := by decide +kernel
theorem dL_isBond_234 : decode cL_isBond 234 = .ok (.aload_n 0, 1) := by decide +kernel
theorem dL_isBond_235 : decode cL_isBond 235 = .ok (.iconst 0, 1) := by decide +kernel
theorem dL_isBond_236 : decode cL_isBond 236 = .ok (.lload 10, 2) := by decide +kernel
theorem dL_isBond_238 : decode cL_isBond 238 = .ok (.lneg, 1) := by decide +kernel
theorem dL_isBond_239 : decode cL_isBond 239 = .ok (.invokevirtual 23, 3) := by decide +kernel
theorem dL_isBond_24 : decode cL_isBond 24 = .ok (.i2l, 1) := by decide +kernel
theorem dL_isBond_242 : decode cL_isBond 242 = .ok (.lstore 14, 2) := by decide +kernel
theorem dL_isBond_244 : decode cL_isBond 244 = .ok (.lload 12, 2) := by decide +kernel
theorem dL_isBond_246 : decode cL_isBond 246 = .ok (.ldc2_w 191, 3) := by decide +kernel
theorem dL_isBond_249 : decode cL_isBond 249 = .ok (.lcmp, 1) := by decide +kernel
theorem dL_isBond_25 : decode cL_isBond 25 = .ok (.lstore_n 2, 1) := by decide +kernel
theorem dL_isBond_250 : decode cL_isBond 250 = .ok (.ifCond .ne 19, 3) := by decide +kernel
theorem dL_isBond_253 : decode cL_isBond 253 = .ok (.aload_n 0, 1) := by decide +kernel
theorem dL_isBond_254 : decode cL_isBond 254 = .ok (.sipush 20000, 3) := by decide +kernel
theorem dL_isBond_257 : decode cL_isBond 257 = .ok (.invokevirtual 118, 3) := by decide +kernel
theorem dL_isBond_26 : decode cL_isBond 26 = .ok (.aload_n 1, 1) := by decide +kernel
theorem dL_isBond_260 : decode cL_isBond 260 = .ok (.ifCond .le 7, 3) := by decide +kernel
theorem dL_isBond_263 : decode cL_isBond 263 = .ok (.iconst 1, 1) := by decide +kernel
theorem dL_isBond_264 : decode cL_isBond 264 = .ok (.goto 4, 3) := by decide +kernel
theorem dL_isBond_268 : decode cL_isBond 268 = .ok (.ireturn, 1) := by decide +kernel
theorem dL_isBond_269 : decode cL_isBond 269 = .ok (.lload 12, 2) := by decide +kernel
theorem dL_isBond_27 : decode cL_isBond 27 = .ok (.iconst 4, 1) := by decide +kernel
theorem dL_isBond_271 : decode cL_isBond 271 = .ok (.l2i, 1) := by decide +kernel
theorem dL_isBond_272 : decode cL_isBond 272 = .ok (.istore 16, 2) := by decide +kernel
theorem dL_isBond_274 : decode cL_isBond 274 = .ok (.aload_n 0, 1) := by decide +kernel
theorem dL_isBond_275 : decode cL_isBond 275 = .ok (.iload 16, 2) := by decide +kernel
theorem dL_isBond_277 : decode cL_isBond 277 = .ok (.invokevirtual 118, 3) := by decide +kernel
theorem dL_isBond_28 : decode cL_isBond 28 = .ok (.invokestatic 13, 3) := by decide +kernel
theorem dL_isBond_280 : decode cL_isBond 280 = .ok (.ifCond .gt 23, 3) := by decide +kernel
theorem dL_isBond_283 : decode cL_isBond 283 = .ok (.iload 16, 2) := by decide +kernel
theorem dL_isBond_285 : decode cL_isBond 285 = .ok (.ifCond .eq 14, 3) := by decide +kernel
theorem dL_isBond_288 : decode cL_isBond 288 = .ok (.aload_n 0, 1) := by decide +kernel
theorem dL_isBond_289 : decode cL_isBond 289 = .ok (.iload 16, 2) := by decide +kernel
theorem dL_isBond_291 : decode cL_isBond 291 = .ok (.iconst 1, 1) := by decide +kernel
theorem dL_isBond_292 : decode cL_isBond 292 = .ok (.isub, 1) := by decide +kernel
theorem dL_isBond_293 : decode cL_isBond 293 = .ok (.invokevirtual 118, 3) := by decide +kernel
theorem dL_isBond_296 : decode cL_isBond 296 = .ok (.ifCond .le 7, 3) := by decide +kernel
theorem dL_isBond_299 : decode cL_isBond 299 = .ok (.iconst 1, 1) := by decide +kernel
theorem dL_isBond_300 : decode cL_isBond 300 = .ok (.goto 4, 3) := by decide +kernel
theorem dL_isBond_304 : decode cL_isBond 304 = .ok (.ireturn, 1) := by decide +kernel
theorem dL_isBond_31 : decode cL_isBond 31 = .ok (.ifCond .ne 7, 3) := by decide +kernel
theorem dL_isBond_34 : decode cL_isBond 34 = .ok (.lconst 0, 1) := by decide +kernel
theorem dL_isBond_35 : decode cL_isBond 35 = .ok (.goto 10, 3) := by decide +kernel
theorem dL_isBond_38 : decode cL_isBond 38 = .ok (.aload_n 1, 1) := by decide +kernel
theorem dL_isBond_39 : decode cL_isBond 39 = .ok (.ldc 224, 2) := by decide +kernel
theorem dL_isBond_41 : decode cL_isBond 41 = .ok (.invokestatic 13, 3) := by decide +kernel
theorem dL_isBond_44 : decode cL_isBond 44 = .ok (.i2l, 1) := by decide +kernel
theorem dL_isBond_45 : decode cL_isBond 45 = .ok (.lstore 4, 2) := by decide +kernel
theorem dL_isBond_47 : decode cL_isBond 47 = .ok (.iconst 1, 1) := by decide +kernel
theorem dL_isBond_48 : decode cL_isBond 48 = .ok (.aload_n 1, 1) := by decide +kernel
theorem dL_isBond_49 : decode cL_isBond 49 = .ok (.bipush 40, 2) := by decide +kernel
theorem dL_isBond_5 : decode cL_isBond 5 = .ok (.ifCond .ne 13, 3) := by decide +kernel
theorem dL_isBond_51 : decode cL_isBond 51 = .ok (.invokestatic 13, 3) := by decide +kernel
theorem dL_isBond_54 : decode cL_isBond 54 = .ok (.iadd, 1) := by decide +kernel
theorem dL_isBond_55 : decode cL_isBond 55 = .ok (.istore 6, 2) := by decide +kernel
theorem dL_isBond_57 : decode cL_isBond 57 = .ok (.aload_n 1, 1) := by decide +kernel
theorem dL_isBond_58 : decode cL_isBond 58 = .ok (.invokestatic 173, 3) := by decide +kernel
theorem dL_isBond_61 : decode cL_isBond 61 = .ok (.istore 7, 2) := by decide +kernel
theorem dL_isBond_63 : decode cL_isBond 63 = .ok (.bipush 41, 2) := by decide +kernel
theorem dL_isBond_65 : decode cL_isBond 65 = .ok (.newarray .long, 2) := by decide +kernel
theorem dL_isBond_67 : decode cL_isBond 67 = .ok (.astore 8, 2) := by decide +kernel
theorem dL_isBond_69 : decode cL_isBond 69 = .ok (.iconst 1, 1) := by decide +kernel
theorem dL_isBond_70 : decode cL_isBond 70 = .ok (.istore 9, 2) := by decide +kernel
theorem dL_isBond_72 : decode cL_isBond 72 = .ok (.iload 9, 2) := by decide +kernel
theorem dL_isBond_74 : decode cL_isBond 74 = .ok (.iload 6, 2) := by decide +kernel
theorem dL_isBond_76 : decode cL_isBond 76 = .ok (.if_icmp .gt 29, 3) := by decide +kernel
theorem dL_isBond_79 : decode cL_isBond 79 = .ok (.aload 8, 2) := by decide +kernel
theorem dL_isBond_8 : decode cL_isBond 8 = .ok (.aload_n 1, 1) := by decide +kernel
theorem dL_isBond_81 : decode cL_isBond 81 = .ok (.iload 9, 2) := by decide +kernel
theorem dL_isBond_83 : decode cL_isBond 83 = .ok (.lload_n 2, 1) := by decide +kernel
theorem dL_isBond_84 : decode cL_isBond 84 = .ok (.iload 9, 2) := by decide +kernel
theorem dL_isBond_86 : decode cL_isBond 86 = .ok (.iload 6, 2) := by decide +kernel
theorem dL_isBond_88 : decode cL_isBond 88 = .ok (.if_icmp .ne 8, 3) := by decide +kernel
theorem dL_isBond_9 : decode cL_isBond 9 = .ok (.bipush 10, 2) := by decide +kernel
theorem dL_isBond_91 : decode cL_isBond 91 = .ok (.lload 4, 2) := by decide +kernel
theorem dL_isBond_93 : decode cL_isBond 93 = .ok (.goto 4, 3) := by decide +kernel
theorem dL_isBond_96 : decode cL_isBond 96 = .ok (.lconst 0, 1) := by decide +kernel
theorem dL_isBond_97 : decode cL_isBond 97 = .ok (.ladd, 1) := by decide +kernel
theorem dL_isBond_98 : decode cL_isBond 98 = .ok (.lastore, 1) := by decide +kernel
theorem dL_isBond_99 : decode cL_isBond 99 = .ok (.iinc 9 1, 3) := by decide +kernel
set_option maxRecDepth 20000 in
theorem ggL_isBond_L_draw : GoodIn wsL_isBond wsL_draw := goodIn_r _ [11, 12, 13] (by decide +kernel) (by decide +kernel)
set_option maxRecDepth 20000 in
theorem gL_isBond_L_draw : GoodIn wsL_isBond (va_wsS RL 13 yL_draw wsL_draw) := goodIn_app (goodIn_of _ (by decide +kernel)) ggL_isBond_L_draw
set_option maxRecDepth 20000 in
theorem ggL_isBond_L_rate : GoodIn wsL_isBond wsL_rate := goodIn_r _ [16, 8, 9, 10, 11, 12, 13] (by decide +kernel) (by decide +kernel)
set_option maxRecDepth 20000 in
theorem gL_isBond_L_rate : GoodIn wsL_isBond (va_wsS RL 173 yL_rate wsL_rate) := goodIn_app (goodIn_of _ (by decide +kernel)) ggL_isBond_L_rate
set_option maxRecDepth 20000 in
theorem ggL_isBond_L_rows : GoodIn wsL_isBond wsL_rows := goodIn_ca (goodIn_ca (goodIn_r _ [19, 20, 21, 22, 23, 24, 25, 26, 27, 28, 29, 30, 31, 32, 33, 34, 35, 36, 37, 38, 39, 40, 41, 42, 43, 44, 45, 46, 47, 48, 49, 50, 51, 52, 53, 54, 55, 56, 57, 58, 59, 60, 61, 62, 63, 64, 65, 66, 67, 68, 273, 274, 275, 276, 277, 278, 279, 280, 281, 282, 283] (by decide +kernel) (by decide +kernel)) (goodIn_sub (fun _ h => List.mem_cons_of_mem _ (List.mem_append_left _ (List.mem_append_right _ h))) (by decide +kernel))) (goodIn_sub (fun _ h => List.mem_cons_of_mem _ (List.mem_append_right _ h)) (by decide +kernel))
set_option maxRecDepth 20000 in
theorem gL_isBond_L_rows : GoodIn wsL_isBond (va_wsS RL 170 yL_rows wsL_rows) := goodIn_app (goodIn_of _ (by decide +kernel)) ggL_isBond_L_rows
set_option maxRecDepth 20000 in
theorem ggL_isBond_X9_bondYield : GoodIn wsL_isBond wsX9_bondYield := goodIn_ca (goodIn_r _ [252, 253, 80, 81, 82, 23, 83, 46, 44, 47, 48, 49, 50, 51, 52, 53, 54, 254, 255, 256, 91, 257, 258, 259, 260, 261, 262, 93, 94, 95, 96, 97, 98, 99, 100, 101, 102, 103, 104, 105, 106, 107, 108, 109, 110, 111, 112, 113, 114, 115, 116, 117, 118, 119, 120, 121, 122, 123, 124, 125, 126, 127, 128, 129, 130, 131, 132, 133, 134, 135, 136, 137, 138, 139, 140, 141, 142, 143, 144, 145, 146, 147, 148, 38, 149, 150, 151, 152, 153, 154, 155, 3, 156, 157, 158, 159, 160, 161, 162, 163, 164, 165, 166, 167, 168, 169, 170, 171, 172, 173, 174, 175, 176, 177, 178, 179, 263, 207, 208, 209, 198, 199, 200, 201, 273, 274, 275, 276, 277, 278, 279, 280, 285, 286, 287, 288, 289, 290, 291, 292, 293, 294] (by decide +kernel) (by decide +kernel)) (goodIn_sub (fun _ h => List.mem_cons_of_mem _ (List.mem_append_left _ (List.mem_append_right _ h))) (by decide +kernel))
set_option maxRecDepth 20000 in
theorem gL_isBond_X9_bondYield : GoodIn wsL_isBond (wsV RL 101 RX9 yX9_bondYield wsX9_bondYield) := goodIn_app (goodIn_of _ (by decide +kernel)) ggL_isBond_X9_bondYield
set_option maxRecDepth 20000 in
theorem ggL_isBond_X9_pay : GoodIn wsL_isBond wsX9_pay := goodIn_ca (goodIn_ca (goodIn_r _ [43, 44, 45, 46, 25, 47, 48, 23, 49, 50, 51, 52, 53, 54, 55, 56, 57, 29, 58, 31, 59, 60, 61, 62, 63, 64, 65, 66, 67, 68, 273, 274, 275, 276, 277, 278, 279, 280, 281, 282, 283] (by decide +kernel) (by decide +kernel)) (goodIn_sub (fun _ h => List.mem_cons_of_mem _ (List.mem_append_left _ (List.mem_append_right _ h))) (by decide +kernel))) (goodIn_sub (fun _ h => List.mem_cons_of_mem _ (List.mem_append_right _ h)) (by decide +kernel))
set_option maxRecDepth 20000 in
theorem gL_isBond_X9_pay : GoodIn wsL_isBond (wsV RL 23 RX9 yX9_pay wsX9_pay) := goodIn_app (goodIn_of _ (by decide +kernel)) ggL_isBond_X9_pay
set_option maxRecDepth 20000 in
theorem gpL_isBond_X9_price_wsX9_price_r1 : GoodIn wsL_isBond wsX9_price_r1 := goodIn_r _ [80, 74, 81, 82, 23, 83, 46, 44, 47, 48, 49, 50, 51, 52, 53, 54, 84, 85, 86, 87, 88, 89, 90, 91] (by decide +kernel) (by decide +kernel)
theorem gpL_isBond_X9_price_wsX9_price_r2 : GoodIn wsL_isBond wsX9_price_r2 := goodIn_r _ [92, 93, 94, 95, 96, 97, 98, 99, 100, 101, 102, 103, 104, 105, 106, 107, 108, 109, 110, 111, 112, 113, 114, 115] (by decide +kernel) (by decide +kernel)
theorem gpL_isBond_X9_price_wsX9_price_r3 : GoodIn wsL_isBond wsX9_price_r3 := goodIn_r _ [116, 117, 118, 119, 120, 121, 122, 123, 124, 125, 126, 127, 128, 129, 130, 131, 132, 133, 134, 135, 136, 137, 138, 139] (by decide +kernel) (by decide +kernel)
theorem gpL_isBond_X9_price_wsX9_price_r4 : GoodIn wsL_isBond wsX9_price_r4 := goodIn_r _ [140, 141, 142, 143, 144, 145, 146, 147, 148, 38, 149, 150, 151, 152, 153, 154, 155, 3, 156, 157, 158, 159, 160, 161] (by decide +kernel) (by decide +kernel)
theorem gpL_isBond_X9_price_wsX9_price_r5 : GoodIn wsL_isBond wsX9_price_r5 := goodIn_r _ [162, 163, 164, 165, 166, 167, 168, 169, 170, 171, 172, 173, 174, 175, 176, 177, 178, 179, 180, 181, 182, 183, 184, 185] (by decide +kernel) (by decide +kernel)
theorem gpL_isBond_X9_price_wsX9_price_r6 : GoodIn wsL_isBond wsX9_price_r6 := goodIn_r _ [186, 187, 188, 189, 190, 191, 192, 193, 194, 195, 196, 197, 198, 199, 200, 201, 202, 203, 204, 205, 206, 207, 208, 209] (by decide +kernel) (by decide +kernel)
theorem gpL_isBond_X9_price_wsX9_price_r7 : GoodIn wsL_isBond wsX9_price_r7 := goodIn_r _ [210, 211, 212, 213, 214, 215, 216, 217, 218, 219, 61, 62, 63, 64, 220, 221, 222, 223] (by decide +kernel) (by decide +kernel)
theorem gpL_isBond_X9_price_wsX90 : GoodIn wsL_isBond wsX90 := goodIn_r _ [273, 274, 275, 276, 277, 278, 279, 280] (by decide +kernel) (by decide +kernel)
theorem gpL_isBond_X9_price_wsX00 : GoodIn wsL_isBond wsX00 := goodIn_r _ [285] (by decide +kernel) (by decide +kernel)
theorem gpL_isBond_X9_price_wsX10 : GoodIn wsL_isBond wsX10 := goodIn_r _ [286, 287, 288, 289, 290, 291] (by decide +kernel) (by decide +kernel)
theorem gpL_isBond_X9_price_wsX80 : GoodIn wsL_isBond wsX80 := goodIn_r _ [292, 293, 294] (by decide +kernel) (by decide +kernel)
theorem gpL_isBond_X9_price_wsX40 : GoodIn wsL_isBond wsX40 := goodIn_r _ [284] (by decide +kernel) (by decide +kernel)
theorem ggL_isBond_X9_price : GoodIn wsL_isBond wsX9_price := goodIn_ca (goodIn_ca (goodIn_cons (goodIn_r [_] [79] (by decide +kernel) (by decide +kernel)) (goodIn_app (goodIn_app (goodIn_app (goodIn_app (goodIn_app (goodIn_app gpL_isBond_X9_price_wsX9_price_r1 (goodIn_app gpL_isBond_X9_price_wsX9_price_r2 (goodIn_app gpL_isBond_X9_price_wsX9_price_r3 (goodIn_app gpL_isBond_X9_price_wsX9_price_r4 (goodIn_app gpL_isBond_X9_price_wsX9_price_r5 (goodIn_app gpL_isBond_X9_price_wsX9_price_r6 (gpL_isBond_X9_price_wsX9_price_r7))))))) gpL_isBond_X9_price_wsX90) gpL_isBond_X9_price_wsX00) gpL_isBond_X9_price_wsX10) gpL_isBond_X9_price_wsX80) gpL_isBond_X9_price_wsX40)) (goodIn_sub (fun _ h => List.mem_cons_of_mem _ (List.mem_append_left _ (List.mem_append_right _ h))) (by decide +kernel))) (goodIn_sub (fun _ h => List.mem_cons_of_mem _ (List.mem_append_right _ h)) (by decide +kernel))
set_option maxRecDepth 20000 in
theorem gL_isBond_X9_price : GoodIn wsL_isBond (wsV RL 62 RX9 yX9_price wsX9_price) := goodIn_app (goodIn_of _ (by decide +kernel)) ggL_isBond_X9_price
set_option maxRecDepth 20000 in
theorem ggL_isBond_X9_setMode : GoodIn wsL_isBond wsX9_setMode := goodIn_ca (goodIn_r _ [72, 73, 74, 75, 47, 48, 23, 49, 50, 51, 52, 53, 54, 273, 274, 275, 276, 277, 278, 279, 280, 284] (by decide +kernel) (by decide +kernel)) (goodIn_sub (fun _ h => List.mem_cons_of_mem _ (List.mem_append_left _ (List.mem_append_right _ h))) (by decide +kernel))
set_option maxRecDepth 20000 in
theorem gL_isBond_X9_setMode : GoodIn wsL_isBond (wsV RL 105 RX9 yX9_setMode wsX9_setMode) := goodIn_app (goodIn_of _ (by decide +kernel)) ggL_isBond_X9_setMode
set_option maxRecDepth 20000 in
theorem ggL_isBond_X9_signAt : GoodIn wsL_isBond wsX9_signAt := goodIn_ca (goodIn_r _ [267, 25, 84, 85, 23, 86, 87, 47, 48, 49, 50, 51, 52, 53, 54, 268, 269, 270, 29, 271, 233, 235, 236, 237, 238, 239, 31, 240, 241, 242, 243, 244, 100, 101, 102, 103, 104, 105, 106, 107, 108, 109, 110, 111, 112, 113, 114, 115, 116, 117, 118, 119, 120, 121, 122, 123, 124, 125, 126, 127, 128, 129, 130, 131, 132, 133, 134, 245, 136, 137, 138, 139, 140, 141, 142, 143, 144, 145, 146, 147, 148, 38, 149, 150, 151, 152, 153, 154, 155, 3, 156, 157, 158, 159, 160, 161, 162, 163, 164, 165, 166, 167, 168, 169, 272, 188, 189, 190, 273, 274, 275, 276, 277, 278, 279, 280, 281, 282, 283, 286, 287, 288, 289, 290, 291, 292, 293, 294] (by decide +kernel) (by decide +kernel)) (goodIn_sub (fun _ h => List.mem_cons_of_mem _ (List.mem_append_left _ (List.mem_append_right _ h))) (by decide +kernel))
set_option maxRecDepth 20000 in
theorem gL_isBond_X9_signAt : GoodIn wsL_isBond (wsV RL 118 RX9 yX9_signAt wsX9_signAt) := goodIn_app (goodIn_of _ (by decide +kernel)) ggL_isBond_X9_signAt
set_option maxRecDepth 20000 in
theorem gpL_isBond_X9_worth_wsX9_worth_r1 : GoodIn wsL_isBond wsX9_worth_r1 := goodIn_r _ [44, 25, 74, 47, 48, 23, 49, 50, 51, 52, 53, 54, 84, 85, 86, 87, 228, 229, 230, 29, 231, 232, 168, 111] (by decide +kernel) (by decide +kernel)
theorem gpL_isBond_X9_worth_wsX9_worth_r2 : GoodIn wsL_isBond wsX9_worth_r2 := goodIn_r _ [169, 233, 234, 235, 236, 237, 238, 239, 31, 240, 241, 242, 243, 244, 100, 101, 102, 103, 104, 105, 106, 107, 108, 109] (by decide +kernel) (by decide +kernel)
theorem gpL_isBond_X9_worth_wsX9_worth_r3 : GoodIn wsL_isBond wsX9_worth_r3 := goodIn_r _ [110, 112, 113, 114, 115, 116, 117, 118, 119, 120, 121, 122, 123, 124, 125, 126, 127, 128, 129, 130, 131, 132, 133, 134] (by decide +kernel) (by decide +kernel)
theorem gpL_isBond_X9_worth_wsX9_worth_r4 : GoodIn wsL_isBond wsX9_worth_r4 := goodIn_r _ [245, 136, 137, 138, 139, 140, 141, 142, 143, 144, 145, 146, 147, 148, 38, 149, 150, 151, 152, 153, 154, 155, 3, 156] (by decide +kernel) (by decide +kernel)
theorem gpL_isBond_X9_worth_wsX9_worth_r5 : GoodIn wsL_isBond wsX9_worth_r5 := goodIn_r _ [157, 158, 159, 160, 161, 162, 163, 164, 165, 166, 167, 246, 171, 172, 173, 174, 175, 176, 177, 178, 179, 247, 248, 181] (by decide +kernel) (by decide +kernel)
theorem gpL_isBond_X9_worth_wsX9_worth_r6 : GoodIn wsL_isBond wsX9_worth_r6 := goodIn_r _ [182, 183, 184, 185, 186, 187, 188, 189, 190, 191, 192, 193, 194, 195, 196, 197, 198, 199, 200, 201, 202, 203, 204, 205] (by decide +kernel) (by decide +kernel)
theorem gpL_isBond_X9_worth_wsX9_worth_r7 : GoodIn wsL_isBond wsX9_worth_r7 := goodIn_r _ [206, 207, 208, 209, 210, 211, 212, 213, 214, 215, 216, 217, 218, 219, 61, 62, 63, 64, 220, 221, 222, 223] (by decide +kernel) (by decide +kernel)
theorem gpL_isBond_X9_worth_wsX90 : GoodIn wsL_isBond wsX90 := goodIn_r _ [273, 274, 275, 276, 277, 278, 279, 280] (by decide +kernel) (by decide +kernel)
theorem gpL_isBond_X9_worth_wsX50 : GoodIn wsL_isBond wsX50 := goodIn_r _ [281, 282, 283] (by decide +kernel) (by decide +kernel)
theorem gpL_isBond_X9_worth_wsX10 : GoodIn wsL_isBond wsX10 := goodIn_r _ [286, 287, 288, 289, 290, 291] (by decide +kernel) (by decide +kernel)
theorem gpL_isBond_X9_worth_wsX80 : GoodIn wsL_isBond wsX80 := goodIn_r _ [292, 293, 294] (by decide +kernel) (by decide +kernel)
theorem gpL_isBond_X9_worth_wsX40 : GoodIn wsL_isBond wsX40 := goodIn_r _ [284] (by decide +kernel) (by decide +kernel)
theorem ggL_isBond_X9_worth : GoodIn wsL_isBond wsX9_worth := goodIn_ca (goodIn_ca (goodIn_cons (goodIn_r [_] [227] (by decide +kernel) (by decide +kernel)) (goodIn_app (goodIn_app (goodIn_app (goodIn_app (goodIn_app (goodIn_app gpL_isBond_X9_worth_wsX9_worth_r1 (goodIn_app gpL_isBond_X9_worth_wsX9_worth_r2 (goodIn_app gpL_isBond_X9_worth_wsX9_worth_r3 (goodIn_app gpL_isBond_X9_worth_wsX9_worth_r4 (goodIn_app gpL_isBond_X9_worth_wsX9_worth_r5 (goodIn_app gpL_isBond_X9_worth_wsX9_worth_r6 (gpL_isBond_X9_worth_wsX9_worth_r7))))))) gpL_isBond_X9_worth_wsX90) gpL_isBond_X9_worth_wsX50) gpL_isBond_X9_worth_wsX10) gpL_isBond_X9_worth_wsX80) gpL_isBond_X9_worth_wsX40)) (goodIn_sub (fun _ h => List.mem_cons_of_mem _ (List.mem_append_left _ (List.mem_append_right _ h))) (by decide +kernel))) (goodIn_sub (fun _ h => List.mem_cons_of_mem _ (List.mem_append_right _ h)) (by decide +kernel))
set_option maxRecDepth 20000 in
theorem gL_isBond_X9_worth : GoodIn wsL_isBond (wsV RL 31 RX9 yX9_worth wsX9_worth) := goodIn_app (goodIn_of _ (by decide +kernel)) ggL_isBond_X9_worth
