-- printed rows that the walks use
theorem dL_asks_174 : decode cL_asks 174 = .ok (.aload_n 0, 1) := by decide +kernel
theorem dL_asks_175 : decode cL_asks 175 = .ok (.lload_n 2, 1) := by decide +kernel
theorem dL_asks_176 : decode cL_asks 176 = .ok (.iload 4, 2) := by decide +kernel
theorem dL_asks_178 : decode cL_asks 178 = .ok (.iload 5, 2) := by decide +kernel
theorem dL_asks_180 : decode cL_asks 180 = .ok (.invokevirtual 39, 3) := by decide +kernel
theorem dL_asks_183 : decode cL_asks 183 = .ok (.lreturn, 1) := by decide +kernel
theorem dL_asks_184 : decode cL_asks 184 = .ok (.aload_n 0, 1) := by decide +kernel
theorem dL_asks_185 : decode cL_asks 185 = .ok (.iload 4, 2) := by decide +kernel
theorem dL_asks_187 : decode cL_asks 187 = .ok (.invokevirtual 43, 3) := by decide +kernel
theorem dL_asks_190 : decode cL_asks 190 = .ok (.ifCond .eq 7, 3) := by decide +kernel
theorem dL_asks_193 : decode cL_asks 193 = .ok (.lconst 1, 1) := by decide +kernel
theorem dL_asks_194 : decode cL_asks 194 = .ok (.goto 4, 3) := by decide +kernel
theorem dL_asks_197 : decode cL_asks 197 = .ok (.lconst 0, 1) := by decide +kernel
theorem dL_asks_198 : decode cL_asks 198 = .ok (.lreturn, 1) := by decide +kernel
theorem dL_asks_199 : decode cL_asks 199 = .ok (.aload_n 0, 1) := by decide +kernel
theorem dL_asks_200 : decode cL_asks 200 = .ok (.iload 4, 2) := by decide +kernel
theorem dL_asks_202 : decode cL_asks 202 = .ok (.iload 5, 2) := by decide +kernel
theorem dL_asks_204 : decode cL_asks 204 = .ok (.invokevirtual 47, 3) := by decide +kernel
theorem dL_asks_207 : decode cL_asks 207 = .ok (.i2l, 1) := by decide +kernel
theorem dL_asks_208 : decode cL_asks 208 = .ok (.lreturn, 1) := by decide +kernel
theorem dL_asks_209 : decode cL_asks 209 = .ok (.aload_n 0, 1) := by decide +kernel
theorem dL_asks_210 : decode cL_asks 210 = .ok (.iload 4, 2) := by decide +kernel
theorem dL_asks_212 : decode cL_asks 212 = .ok (.lload_n 2, 1) := by decide +kernel
theorem dL_asks_213 : decode cL_asks 213 = .ok (.invokevirtual 51, 3) := by decide +kernel
theorem dL_asks_216 : decode cL_asks 216 = .ok (.i2l, 1) := by decide +kernel
theorem dL_asks_217 : decode cL_asks 217 = .ok (.lreturn, 1) := by decide +kernel
set_option maxRecDepth 20000 in
theorem gpL_asks_X9_change_wsX9_change_r1 : GoodIn wsL_asks wsX9_change_r1 := goodIn_r _ [313, 248, 296, 247, 16, 314, 297, 298, 299, 10, 300, 227, 42, 43, 44, 45, 17, 18, 19, 20, 21, 22, 23, 24] (by decide +kernel) (by decide +kernel)
theorem gpL_asks_X9_change_wsX9_change_r2 : GoodIn wsL_asks wsX9_change_r2 := goodIn_r _ [86, 87, 88, 89, 301, 302, 303, 252, 304, 254, 255, 256, 257, 258, 315, 316, 317, 318, 259, 260, 261, 262, 263, 264] (by decide +kernel) (by decide +kernel)
theorem gpL_asks_X9_change_wsX9_change_r3 : GoodIn wsL_asks wsX9_change_r3 := goodIn_r _ [265, 266, 267, 268, 269, 270, 271, 272, 109, 110, 111, 112, 113, 114, 115, 116, 117, 118, 119, 32, 120, 121, 122, 123] (by decide +kernel) (by decide +kernel)
theorem gpL_asks_X9_change_wsX9_change_r4 : GoodIn wsL_asks wsX9_change_r4 := goodIn_r _ [124, 125, 126, 127, 128, 129, 130, 131, 132, 133, 134, 135, 136, 137, 138, 139, 140, 141, 142, 273, 144, 145, 146, 147] (by decide +kernel) (by decide +kernel)
theorem gpL_asks_X9_change_wsX9_change_r5 : GoodIn wsL_asks wsX9_change_r5 := goodIn_r _ [148, 149, 150, 151, 152, 153, 154, 155, 156, 157, 158, 159, 160, 161, 162, 163, 164, 165, 166, 167, 168, 169, 170, 171] (by decide +kernel) (by decide +kernel)
theorem gpL_asks_X9_change_wsX9_change_r6 : GoodIn wsL_asks wsX9_change_r6 := goodIn_r _ [172, 173, 174, 175, 176, 177, 95, 96, 274, 179, 180, 181, 182, 183, 184, 185, 186, 187, 275, 190, 191, 28, 192, 193] (by decide +kernel) (by decide +kernel)
theorem gpL_asks_X9_change_wsX9_change_r7 : GoodIn wsL_asks wsX9_change_r7 := goodIn_r _ [50, 194, 195, 196, 197, 198, 199, 200, 201, 202, 203, 204, 205, 206, 207, 208, 209, 210, 211, 212, 213, 214, 215, 216] (by decide +kernel) (by decide +kernel)
theorem gpL_asks_X9_change_wsX9_change_r8 : GoodIn wsL_asks wsX9_change_r8 := goodIn_r _ [217, 218, 34, 35, 36, 37, 38, 39, 40, 41, 46, 47, 48, 49, 276, 26, 27, 29, 30, 31, 33, 277, 278, 279] (by decide +kernel) (by decide +kernel)
theorem gpL_asks_X9_change_wsX9_change_r9 : GoodIn wsL_asks wsX9_change_r9 := goodIn_r _ [280, 281, 282, 283, 284, 285, 286, 287] (by decide +kernel) (by decide +kernel)
theorem gpL_asks_X9_change_wsX90 : GoodIn wsL_asks wsX90 := goodIn_r _ [554, 555, 556, 557, 558, 559, 560, 561] (by decide +kernel) (by decide +kernel)
theorem gpL_asks_X9_change_wsX30 : GoodIn wsL_asks wsX30 := goodIn_r _ [575, 576, 577, 578, 579, 580, 581, 582] (by decide +kernel) (by decide +kernel)
theorem gpL_asks_X9_change_wsX10 : GoodIn wsL_asks wsX10 := goodIn_r _ [566, 567, 568, 569, 570, 571] (by decide +kernel) (by decide +kernel)
theorem gpL_asks_X9_change_wsX80 : GoodIn wsL_asks wsX80 := goodIn_r _ [572, 573, 574] (by decide +kernel) (by decide +kernel)
theorem gpL_asks_X9_change_wsX40 : GoodIn wsL_asks wsX40 := goodIn_r _ [562] (by decide +kernel) (by decide +kernel)
theorem ggL_asks_X9_change : GoodIn wsL_asks wsX9_change := goodIn_ca (goodIn_ca (goodIn_cons (goodIn_r [_] [312] (by decide +kernel) (by decide +kernel)) (goodIn_app (goodIn_app (goodIn_app (goodIn_app (goodIn_app (goodIn_app gpL_asks_X9_change_wsX9_change_r1 (goodIn_app gpL_asks_X9_change_wsX9_change_r2 (goodIn_app gpL_asks_X9_change_wsX9_change_r3 (goodIn_app gpL_asks_X9_change_wsX9_change_r4 (goodIn_app gpL_asks_X9_change_wsX9_change_r5 (goodIn_app gpL_asks_X9_change_wsX9_change_r6 (goodIn_app gpL_asks_X9_change_wsX9_change_r7 (goodIn_app gpL_asks_X9_change_wsX9_change_r8 (gpL_asks_X9_change_wsX9_change_r9))))))))) gpL_asks_X9_change_wsX90) gpL_asks_X9_change_wsX30) gpL_asks_X9_change_wsX10) gpL_asks_X9_change_wsX80) gpL_asks_X9_change_wsX40)) (goodIn_sub (fun _ h => List.mem_cons_of_mem _ (List.mem_append_left _ (List.mem_append_right _ h))) (by decide +kernel))) (goodIn_sub (fun _ h => List.mem_cons_of_mem _ (List.mem_append_left _ (List.mem_append_left _ (List.mem_append_right _ h)))) (by decide +kernel))
set_option maxRecDepth 20000 in
theorem gL_asks_X9_change : GoodIn wsL_asks (wsV RL 47 RX9 yX9_change wsX9_change) := goodIn_app (goodIn_of _ (by decide +kernel)) ggL_asks_X9_change
set_option maxRecDepth 20000 in
theorem gpL_asks_X9_early_wsX9_early_r1 : GoodIn wsL_asks wsX9_early_r1 := goodIn_r _ [248, 296, 57, 247, 16, 314, 297, 298, 299, 10, 300, 227, 42, 43, 44, 45, 17, 18, 19, 20, 21, 22, 23, 24] (by decide +kernel) (by decide +kernel)
theorem gpL_asks_X9_early_wsX9_early_r2 : GoodIn wsL_asks wsX9_early_r2 := goodIn_r _ [301, 302, 303, 252, 304, 254, 255, 256, 257, 258, 323, 324, 325, 326, 259, 260, 261, 262, 263, 264, 265, 266, 267, 268] (by decide +kernel) (by decide +kernel)
theorem gpL_asks_X9_early_wsX9_early_r3 : GoodIn wsL_asks wsX9_early_r3 := goodIn_r _ [269, 270, 271, 272, 109, 110, 111, 112, 113, 114, 115, 116, 117, 118, 119, 32, 120, 121, 122, 123, 124, 125, 126, 127] (by decide +kernel) (by decide +kernel)
theorem gpL_asks_X9_early_wsX9_early_r4 : GoodIn wsL_asks wsX9_early_r4 := goodIn_r _ [128, 129, 130, 131, 132, 133, 134, 135, 136, 137, 138, 139, 140, 141, 142, 273, 144, 145, 146, 147, 148, 149, 150, 151] (by decide +kernel) (by decide +kernel)
theorem gpL_asks_X9_early_wsX9_early_r5 : GoodIn wsL_asks wsX9_early_r5 := goodIn_r _ [152, 153, 154, 155, 156, 157, 158, 159, 160, 161, 162, 163, 164, 165, 166, 167, 168, 169, 170, 171, 172, 173, 174, 175] (by decide +kernel) (by decide +kernel)
theorem gpL_asks_X9_early_wsX9_early_r6 : GoodIn wsL_asks wsX9_early_r6 := goodIn_r _ [176, 177, 95, 96, 274, 179, 180, 181, 182, 183, 184, 185, 186, 187, 275, 190, 191, 28, 192, 193, 50, 194, 195, 196] (by decide +kernel) (by decide +kernel)
theorem gpL_asks_X9_early_wsX9_early_r7 : GoodIn wsL_asks wsX9_early_r7 := goodIn_r _ [197, 198, 199, 200, 201, 202, 203, 204, 205, 206, 207, 208, 209, 210, 211, 212, 213, 214, 215, 216, 217, 218, 34, 35] (by decide +kernel) (by decide +kernel)
theorem gpL_asks_X9_early_wsX9_early_r8 : GoodIn wsL_asks wsX9_early_r8 := goodIn_r _ [36, 37, 38, 39, 40, 41, 46, 47, 48, 49, 276, 26, 27, 29, 30, 31, 33, 277, 278, 279, 280, 281, 282, 283] (by decide +kernel) (by decide +kernel)
theorem gpL_asks_X9_early_wsX9_early_r9 : GoodIn wsL_asks wsX9_early_r9 := goodIn_r _ [284, 285, 286, 287] (by decide +kernel) (by decide +kernel)
theorem gpL_asks_X9_early_wsX90 : GoodIn wsL_asks wsX90 := goodIn_r _ [554, 555, 556, 557, 558, 559, 560, 561] (by decide +kernel) (by decide +kernel)
theorem gpL_asks_X9_early_wsX30 : GoodIn wsL_asks wsX30 := goodIn_r _ [575, 576, 577, 578, 579, 580, 581, 582] (by decide +kernel) (by decide +kernel)
theorem gpL_asks_X9_early_wsX10 : GoodIn wsL_asks wsX10 := goodIn_r _ [566, 567, 568, 569, 570, 571] (by decide +kernel) (by decide +kernel)
theorem gpL_asks_X9_early_wsX80 : GoodIn wsL_asks wsX80 := goodIn_r _ [572, 573, 574] (by decide +kernel) (by decide +kernel)
theorem gpL_asks_X9_early_wsX40 : GoodIn wsL_asks wsX40 := goodIn_r _ [562] (by decide +kernel) (by decide +kernel)
theorem ggL_asks_X9_early : GoodIn wsL_asks wsX9_early := goodIn_ca (goodIn_ca (goodIn_cons (goodIn_r [_] [322] (by decide +kernel) (by decide +kernel)) (goodIn_app (goodIn_app (goodIn_app (goodIn_app (goodIn_app (goodIn_app gpL_asks_X9_early_wsX9_early_r1 (goodIn_app gpL_asks_X9_early_wsX9_early_r2 (goodIn_app gpL_asks_X9_early_wsX9_early_r3 (goodIn_app gpL_asks_X9_early_wsX9_early_r4 (goodIn_app gpL_asks_X9_early_wsX9_early_r5 (goodIn_app gpL_asks_X9_early_wsX9_early_r6 (goodIn_app gpL_asks_X9_early_wsX9_early_r7 (goodIn_app gpL_asks_X9_early_wsX9_early_r8 (gpL_asks_X9_early_wsX9_early_r9))))))))) gpL_asks_X9_early_wsX90) gpL_asks_X9_early_wsX30) gpL_asks_X9_early_wsX10) gpL_asks_X9_early_wsX80) gpL_asks_X9_early_wsX40)) (goodIn_sub (fun _ h => List.mem_cons_of_mem _ (List.mem_append_left _ (List.mem_append_right _ h))) (by decide +kernel))) (goodIn_sub (fun _ h => List.mem_cons_of_mem _ (List.mem_append_left _ (List.mem_append_left _ (List.mem_append_right _ h)))) (by decide +kernel))
set_option maxRecDepth 20000 in
theorem gL_asks_X9_early : GoodIn wsL_asks (wsV RL 51 RX9 yX9_early wsX9_early) := goodIn_app (goodIn_of _ (by decide +kernel)) ggL_asks_X9_early
set_option maxRecDepth 20000 in
theorem gpL_asks_X9_holiday_wsX9_holiday_r1 : GoodIn wsL_asks wsX9_holiday_r1 := goodIn_r _ [248, 296, 247, 16, 297, 298, 299, 10, 300, 227, 42, 43, 44, 45, 17, 18, 19, 20, 21, 22, 23, 24, 301, 302] (by decide +kernel) (by decide +kernel)
theorem gpL_asks_X9_holiday_wsX9_holiday_r2 : GoodIn wsL_asks wsX9_holiday_r2 := goodIn_r _ [303, 252, 304, 254, 255, 256, 257, 258, 305, 306, 307, 308, 259, 260, 261, 262, 263, 264, 265, 266, 267, 268, 269, 270] (by decide +kernel) (by decide +kernel)
theorem gpL_asks_X9_holiday_wsX9_holiday_r3 : GoodIn wsL_asks wsX9_holiday_r3 := goodIn_r _ [271, 272, 109, 110, 111, 112, 113, 114, 115, 116, 117, 118, 119, 32, 120, 121, 122, 123, 124, 125, 126, 127, 128, 129] (by decide +kernel) (by decide +kernel)
theorem gpL_asks_X9_holiday_wsX9_holiday_r4 : GoodIn wsL_asks wsX9_holiday_r4 := goodIn_r _ [130, 131, 132, 133, 134, 135, 136, 137, 138, 139, 140, 141, 142, 273, 144, 145, 146, 147, 148, 149, 150, 151, 152, 153] (by decide +kernel) (by decide +kernel)
theorem gpL_asks_X9_holiday_wsX9_holiday_r5 : GoodIn wsL_asks wsX9_holiday_r5 := goodIn_r _ [154, 155, 156, 157, 158, 159, 160, 161, 162, 163, 164, 165, 166, 167, 168, 169, 170, 171, 172, 173, 174, 175, 176, 177] (by decide +kernel) (by decide +kernel)
theorem gpL_asks_X9_holiday_wsX9_holiday_r6 : GoodIn wsL_asks wsX9_holiday_r6 := goodIn_r _ [95, 96, 274, 179, 180, 181, 182, 183, 184, 185, 186, 187, 275, 190, 191, 28, 192, 193, 50, 194, 195, 196, 197, 198] (by decide +kernel) (by decide +kernel)
theorem gpL_asks_X9_holiday_wsX9_holiday_r7 : GoodIn wsL_asks wsX9_holiday_r7 := goodIn_r _ [199, 200, 201, 202, 203, 204, 205, 206, 207, 208, 209, 210, 211, 212, 213, 214, 215, 216, 217, 218, 34, 35, 36, 37] (by decide +kernel) (by decide +kernel)
theorem gpL_asks_X9_holiday_wsX9_holiday_r8 : GoodIn wsL_asks wsX9_holiday_r8 := goodIn_r _ [38, 39, 40, 41, 46, 47, 48, 49, 276, 26, 27, 29, 30, 31, 33, 277, 278, 279, 280, 281, 282, 283, 284, 285] (by decide +kernel) (by decide +kernel)
theorem gpL_asks_X9_holiday_wsX9_holiday_r9 : GoodIn wsL_asks wsX9_holiday_r9 := goodIn_r _ [286, 287] (by decide +kernel) (by decide +kernel)
theorem gpL_asks_X9_holiday_wsX90 : GoodIn wsL_asks wsX90 := goodIn_r _ [554, 555, 556, 557, 558, 559, 560, 561] (by decide +kernel) (by decide +kernel)
theorem gpL_asks_X9_holiday_wsX30 : GoodIn wsL_asks wsX30 := goodIn_r _ [575, 576, 577, 578, 579, 580, 581, 582] (by decide +kernel) (by decide +kernel)
theorem gpL_asks_X9_holiday_wsX10 : GoodIn wsL_asks wsX10 := goodIn_r _ [566, 567, 568, 569, 570, 571] (by decide +kernel) (by decide +kernel)
theorem gpL_asks_X9_holiday_wsX80 : GoodIn wsL_asks wsX80 := goodIn_r _ [572, 573, 574] (by decide +kernel) (by decide +kernel)
theorem gpL_asks_X9_holiday_wsX40 : GoodIn wsL_asks wsX40 := goodIn_r _ [562] (by decide +kernel) (by decide +kernel)
theorem ggL_asks_X9_holiday : GoodIn wsL_asks wsX9_holiday := goodIn_ca (goodIn_ca (goodIn_cons (goodIn_r [_] [295] (by decide +kernel) (by decide +kernel)) (goodIn_app (goodIn_app (goodIn_app (goodIn_app (goodIn_app (goodIn_app gpL_asks_X9_holiday_wsX9_holiday_r1 (goodIn_app gpL_asks_X9_holiday_wsX9_holiday_r2 (goodIn_app gpL_asks_X9_holiday_wsX9_holiday_r3 (goodIn_app gpL_asks_X9_holiday_wsX9_holiday_r4 (goodIn_app gpL_asks_X9_holiday_wsX9_holiday_r5 (goodIn_app gpL_asks_X9_holiday_wsX9_holiday_r6 (goodIn_app gpL_asks_X9_holiday_wsX9_holiday_r7 (goodIn_app gpL_asks_X9_holiday_wsX9_holiday_r8 (gpL_asks_X9_holiday_wsX9_holiday_r9))))))))) gpL_asks_X9_holiday_wsX90) gpL_asks_X9_holiday_wsX30) gpL_asks_X9_holiday_wsX10) gpL_asks_X9_holiday_wsX80) gpL_asks_X9_holiday_wsX40)) (goodIn_sub (fun _ h => List.mem_cons_of_mem _ (List.mem_append_left _ (List.mem_append_right _ h))) (by decide +kernel))) (goodIn_sub (fun _ h => List.mem_cons_of_mem _ (List.mem_append_left _ (List.mem_append_left _ (List.mem_append_right _ h)))) (by decide +kernel))
set_option maxRecDepth 20000 in
theorem gL_asks_X9_holiday : GoodIn wsL_asks (wsV RL 43 RX9 yX9_holiday wsX9_holiday) := goodIn_app (goodIn_of _ (by decide +kernel)) ggL_asks_X9_holiday
set_option maxRecDepth 20000 in
theorem gpL_asks_X9_lend_wsX9_lend_r1 : GoodIn wsL_asks wsX9_lend_r1 := goodIn_r _ [57, 246, 247, 16, 248, 17, 18, 10, 19, 20, 21, 22, 23, 24, 86, 87, 88, 89, 249, 250, 251, 252, 253, 254] (by decide +kernel) (by decide +kernel)
theorem gpL_asks_X9_lend_wsX9_lend_r2 : GoodIn wsL_asks wsX9_lend_r2 := goodIn_r _ [255, 256, 257, 258, 259, 260, 261, 262, 263, 264, 265, 266, 267, 268, 269, 270, 271, 272, 109, 110, 111, 112, 113, 114] (by decide +kernel) (by decide +kernel)
theorem gpL_asks_X9_lend_wsX9_lend_r3 : GoodIn wsL_asks wsX9_lend_r3 := goodIn_r _ [115, 116, 117, 118, 119, 32, 120, 121, 122, 123, 124, 125, 126, 127, 128, 129, 130, 131, 132, 133, 134, 135, 136, 137] (by decide +kernel) (by decide +kernel)
theorem gpL_asks_X9_lend_wsX9_lend_r4 : GoodIn wsL_asks wsX9_lend_r4 := goodIn_r _ [138, 139, 140, 141, 142, 273, 144, 145, 146, 147, 148, 149, 150, 151, 152, 153, 154, 155, 156, 157, 158, 159, 160, 161] (by decide +kernel) (by decide +kernel)
theorem gpL_asks_X9_lend_wsX9_lend_r5 : GoodIn wsL_asks wsX9_lend_r5 := goodIn_r _ [162, 163, 164, 165, 166, 167, 168, 169, 170, 171, 172, 173, 174, 175, 176, 177, 95, 96, 274, 179, 180, 181, 182, 183] (by decide +kernel) (by decide +kernel)
theorem gpL_asks_X9_lend_wsX9_lend_r6 : GoodIn wsL_asks wsX9_lend_r6 := goodIn_r _ [184, 185, 186, 187, 275, 190, 191, 28, 192, 193, 50, 194, 195, 196, 197, 198, 199, 200, 201, 202, 203, 204, 205, 206] (by decide +kernel) (by decide +kernel)
theorem gpL_asks_X9_lend_wsX9_lend_r7 : GoodIn wsL_asks wsX9_lend_r7 := goodIn_r _ [207, 208, 209, 210, 211, 212, 213, 214, 215, 216, 217, 218, 34, 35, 36, 37, 38, 39, 40, 41, 42, 43, 44, 45] (by decide +kernel) (by decide +kernel)
theorem gpL_asks_X9_lend_wsX9_lend_r8 : GoodIn wsL_asks wsX9_lend_r8 := goodIn_r _ [46, 47, 48, 49, 276, 26, 27, 29, 30, 31, 33, 277, 278, 279, 280, 281, 282, 283, 284, 285, 286, 287, 288, 289] (by decide +kernel) (by decide +kernel)
theorem gpL_asks_X9_lend_wsX9_lend_r9 : GoodIn wsL_asks wsX9_lend_r9 := goodIn_r _ [290, 291] (by decide +kernel) (by decide +kernel)
theorem gpL_asks_X9_lend_wsX90 : GoodIn wsL_asks wsX90 := goodIn_r _ [554, 555, 556, 557, 558, 559, 560, 561] (by decide +kernel) (by decide +kernel)
theorem gpL_asks_X9_lend_wsX30 : GoodIn wsL_asks wsX30 := goodIn_r _ [575, 576, 577, 578, 579, 580, 581, 582] (by decide +kernel) (by decide +kernel)
theorem gpL_asks_X9_lend_wsX10 : GoodIn wsL_asks wsX10 := goodIn_r _ [566, 567, 568, 569, 570, 571] (by decide +kernel) (by decide +kernel)
theorem gpL_asks_X9_lend_wsX80 : GoodIn wsL_asks wsX80 := goodIn_r _ [572, 573, 574] (by decide +kernel) (by decide +kernel)
theorem gpL_asks_X9_lend_wsX40 : GoodIn wsL_asks wsX40 := goodIn_r _ [562] (by decide +kernel) (by decide +kernel)
theorem ggL_asks_X9_lend : GoodIn wsL_asks wsX9_lend := goodIn_ca (goodIn_ca (goodIn_cons (goodIn_r [_] [245] (by decide +kernel) (by decide +kernel)) (goodIn_app (goodIn_app (goodIn_app (goodIn_app (goodIn_app (goodIn_app gpL_asks_X9_lend_wsX9_lend_r1 (goodIn_app gpL_asks_X9_lend_wsX9_lend_r2 (goodIn_app gpL_asks_X9_lend_wsX9_lend_r3 (goodIn_app gpL_asks_X9_lend_wsX9_lend_r4 (goodIn_app gpL_asks_X9_lend_wsX9_lend_r5 (goodIn_app gpL_asks_X9_lend_wsX9_lend_r6 (goodIn_app gpL_asks_X9_lend_wsX9_lend_r7 (goodIn_app gpL_asks_X9_lend_wsX9_lend_r8 (gpL_asks_X9_lend_wsX9_lend_r9))))))))) gpL_asks_X9_lend_wsX90) gpL_asks_X9_lend_wsX30) gpL_asks_X9_lend_wsX10) gpL_asks_X9_lend_wsX80) gpL_asks_X9_lend_wsX40)) (goodIn_sub (fun _ h => List.mem_cons_of_mem _ (List.mem_append_left _ (List.mem_append_left _ (List.mem_append_right _ h)))) (by decide +kernel))) (goodIn_sub (fun _ h => List.mem_cons_of_mem _ (List.mem_append_left _ (List.mem_append_right _ h))) (by decide +kernel))
set_option maxRecDepth 20000 in
theorem gL_asks_X9_lend : GoodIn wsL_asks (wsV RL 39 RX9 yX9_lend wsX9_lend) := goodIn_app (goodIn_of _ (by decide +kernel)) ggL_asks_X9_lend
