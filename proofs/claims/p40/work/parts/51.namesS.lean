-- printed rows that the walks use
theorem dL_against_0 : decode cL_against 0 = .ok (.aload_n 0, 1) := by decide +kernel
theorem dL_against_1 : decode cL_against 1 = .ok (.invokevirtual 166, 3) := by decide +kernel
theorem dL_against_11 : decode cL_against 11 = .ok (.lload_n 1, 1) := by decide +kernel
theorem dL_against_12 : decode cL_against 12 = .ok (.lmul, 1) := by decide +kernel
theorem dL_against_13 : decode cL_against 13 = .ok (.invokevirtual 23, 3) := by decide +kernel
theorem dL_against_16 : decode cL_against 16 = .ok (.lstore 8, 2) := by decide +kernel
theorem dL_against_18 : decode cL_against 18 = .ok (.aload_n 0, 1) := by decide +kernel
theorem dL_against_19 : decode cL_against 19 = .ok (.iconst 1, 1) := by decide +kernel
theorem dL_against_20 : decode cL_against 20 = .ok (.iload 4, 2) := by decide +kernel
theorem dL_against_22 : decode cL_against 22 = .ok (.lload 5, 2) := by decide +kernel
theorem dL_against_24 : decode cL_against 24 = .ok (.lconst 0, 1) := by decide +kernel
theorem dL_against_25 : decode cL_against 25 = .ok (.invokevirtual 27, 3) := by decide +kernel
theorem dL_against_28 : decode cL_against 28 = .ok (.istore 7, 2) := by decide +kernel
theorem dL_against_30 : decode cL_against 30 = .ok (.aload_n 0, 1) := by decide +kernel
theorem dL_against_31 : decode cL_against 31 = .ok (.iload_n 3, 1) := by decide +kernel
theorem dL_against_32 : decode cL_against 32 = .ok (.invokevirtual 118, 3) := by decide +kernel
theorem dL_against_35 : decode cL_against 35 = .ok (.ireturn, 1) := by decide +kernel
theorem dL_against_4 : decode cL_against 4 = .ok (.istore 7, 2) := by decide +kernel
theorem dL_against_6 : decode cL_against 6 = .ok (.aload_n 0, 1) := by decide +kernel
theorem dL_against_7 : decode cL_against 7 = .ok (.iconst 0, 1) := by decide +kernel
theorem dL_against_8 : decode cL_against 8 = .ok (.ldc2_w 205, 3) := by decide +kernel
set_option maxRecDepth 20000 in
theorem ggL_against_X9_clearRow : GoodIn wsL_against wsX9_clearRow := goodIn_r _ [6, 7, 8, 9, 10, 11, 12, 13, 14, 15, 16, 17, 18, 19, 20, 21, 156, 157, 158, 159, 160, 161, 162, 163, 164, 165, 166] (by decide +kernel) (by decide +kernel)
set_option maxRecDepth 20000 in
theorem gL_against_X9_clearRow : GoodIn wsL_against (wsV RL 166 RX9 yX9_clearRow wsX9_clearRow) := goodIn_app (goodIn_of _ (by decide +kernel)) ggL_against_X9_clearRow
set_option maxRecDepth 20000 in
theorem ggL_against_X9_pay : GoodIn wsL_against wsX9_pay := goodIn_ca (goodIn_ca (goodIn_r _ [25, 26, 27, 28, 7, 29, 30, 5, 31, 32, 33, 34, 35, 36, 37, 38, 39, 11, 40, 13, 41, 42, 43, 44, 45, 46, 47, 48, 49, 50, 156, 157, 158, 159, 160, 161, 162, 163, 164, 165, 166] (by decide +kernel) (by decide +kernel)) (goodIn_sub (fun _ h => List.mem_cons_of_mem _ (List.mem_append_left _ (List.mem_append_right _ h))) (by decide +kernel))) (goodIn_sub (fun _ h => List.mem_cons_of_mem _ (List.mem_append_right _ h)) (by decide +kernel))
set_option maxRecDepth 20000 in
theorem gL_against_X9_pay : GoodIn wsL_against (wsV RL 23 RX9 yX9_pay wsX9_pay) := goodIn_app (goodIn_of _ (by decide +kernel)) ggL_against_X9_pay
set_option maxRecDepth 20000 in
theorem ggL_against_X9_payMany : GoodIn wsL_against wsX9_payMany := goodIn_ca (goodIn_ca (goodIn_r _ [54, 26, 55, 27, 28, 56, 57, 7, 29, 30, 5, 31, 32, 33, 34, 35, 36, 37, 38, 39, 11, 40, 13, 41, 42, 43, 44, 45, 46, 8, 9, 10, 12, 156, 157, 158, 159, 160, 161, 162, 163, 164, 165, 166] (by decide +kernel) (by decide +kernel)) (goodIn_sub (fun _ h => List.mem_cons_of_mem _ (List.mem_append_left _ (List.mem_append_right _ h))) (by decide +kernel))) (goodIn_sub (fun _ h => List.mem_cons_of_mem _ (List.mem_append_right _ h)) (by decide +kernel))
set_option maxRecDepth 20000 in
theorem gL_against_X9_payMany : GoodIn wsL_against (wsV RL 27 RX9 yX9_payMany wsX9_payMany) := goodIn_app (goodIn_of _ (by decide +kernel)) ggL_against_X9_payMany
set_option maxRecDepth 20000 in
theorem ggL_against_X9_signAt : GoodIn wsL_against wsX9_signAt := goodIn_ca (goodIn_r _ [61, 7, 62, 63, 5, 64, 65, 29, 30, 31, 32, 33, 34, 35, 36, 66, 67, 68, 11, 69, 70, 71, 72, 73, 74, 75, 13, 76, 77, 78, 79, 80, 81, 82, 83, 84, 85, 86, 87, 88, 89, 90, 91, 92, 93, 94, 95, 96, 97, 98, 99, 100, 101, 102, 103, 104, 105, 106, 107, 108, 109, 110, 111, 112, 113, 114, 115, 116, 117, 118, 119, 120, 121, 122, 123, 124, 125, 126, 127, 128, 129, 20, 130, 131, 132, 133, 134, 135, 136, 137, 138, 139, 140, 141, 142, 143, 144, 145, 146, 147, 148, 149, 150, 151, 152, 153, 154, 155, 156, 157, 158, 159, 160, 161, 162, 163, 164, 165, 166, 167, 168, 169, 170, 171, 172, 173, 174, 175] (by decide +kernel) (by decide +kernel)) (goodIn_sub (fun _ h => List.mem_cons_of_mem _ (List.mem_append_left _ (List.mem_append_right _ h))) (by decide +kernel))
set_option maxRecDepth 20000 in
theorem gL_against_X9_signAt : GoodIn wsL_against (wsV RL 118 RX9 yX9_signAt wsX9_signAt) := goodIn_app (goodIn_of _ (by decide +kernel)) ggL_against_X9_signAt
