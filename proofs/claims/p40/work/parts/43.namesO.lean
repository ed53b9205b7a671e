-- printed rows that the walks use
theorem dL_rows_0 : decode cL_rows 0 = .ok (.aload_n 0, 1) := by decide +kernel
theorem dL_rows_1 : decode cL_rows 1 = .ok (.invokevirtual 166, 3) := by decide +kernel
theorem dL_rows_10 : decode cL_rows 10 = .ok (.iload 5, 2) := by decide +kernel
theorem dL_rows_12 : decode cL_rows 12 = .ok (.aload_n 1, 1) := by decide +kernel
theorem dL_rows_13 : decode cL_rows 13 = .ok (.arraylength, 1) := by decide +kernel
theorem dL_rows_14 : decode cL_rows 14 = .ok (.if_icmp .ge 29, 3) := by decide +kernel
theorem dL_rows_17 : decode cL_rows 17 = .ok (.aload_n 1, 1) := by decide +kernel
theorem dL_rows_18 : decode cL_rows 18 = .ok (.iload 5, 2) := by decide +kernel
theorem dL_rows_20 : decode cL_rows 20 = .ok (.laload, 1) := by decide +kernel
theorem dL_rows_21 : decode cL_rows 21 = .ok (.lconst 0, 1) := by decide +kernel
theorem dL_rows_22 : decode cL_rows 22 = .ok (.lcmp, 1) := by decide +kernel
theorem dL_rows_23 : decode cL_rows 23 = .ok (.ifCond .eq 14, 3) := by decide +kernel
theorem dL_rows_26 : decode cL_rows 26 = .ok (.aload_n 0, 1) := by decide +kernel
theorem dL_rows_27 : decode cL_rows 27 = .ok (.iload 5, 2) := by decide +kernel
theorem dL_rows_29 : decode cL_rows 29 = .ok (.aload_n 1, 1) := by decide +kernel
theorem dL_rows_30 : decode cL_rows 30 = .ok (.iload 5, 2) := by decide +kernel
theorem dL_rows_32 : decode cL_rows 32 = .ok (.laload, 1) := by decide +kernel
theorem dL_rows_33 : decode cL_rows 33 = .ok (.invokevirtual 23, 3) := by decide +kernel
theorem dL_rows_36 : decode cL_rows 36 = .ok (.lstore_n 3, 1) := by decide +kernel
theorem dL_rows_37 : decode cL_rows 37 = .ok (.iinc 5 1, 3) := by decide +kernel
theorem dL_rows_4 : decode cL_rows 4 = .ok (.istore_n 2, 1) := by decide +kernel
theorem dL_rows_40 : decode cL_rows 40 = .ok (.goto (-30), 3) := by decide +kernel
theorem dL_rows_43 : decode cL_rows 43 = .ok (.return_, 1) := by decide +kernel
theorem dL_rows_5 : decode cL_rows 5 = .ok (.lconst 0, 1) := by decide +kernel
theorem dL_rows_6 : decode cL_rows 6 = .ok (.lstore_n 3, 1) := by decide +kernel
theorem dL_rows_7 : decode cL_rows 7 = .ok (.iconst 0, 1) := by decide +kernel
theorem dL_rows_8 : decode cL_rows 8 = .ok (.istore 5, 2) := by decide +kernel
theorem dL_seed_0 : decode cL_seed 0 = .ok (.iconst 2, 1) := by decide +kernel
theorem dL_seed_1 : decode cL_seed 1 = .ok (.newarray .int, 2) := by decide +kernel
theorem dL_seed_10 : decode cL_seed 10 = .ok (.iadd, 1) := by decide +kernel
theorem dL_seed_11 : decode cL_seed 11 = .ok (.iastore, 1) := by decide +kernel
theorem dL_seed_12 : decode cL_seed 12 = .ok (.dup, 1) := by decide +kernel
theorem dL_seed_13 : decode cL_seed 13 = .ok (.iconst 1, 1) := by decide +kernel
theorem dL_seed_14 : decode cL_seed 14 = .ok (.ldc 9, 2) := by decide +kernel
theorem dL_seed_16 : decode cL_seed 16 = .ok (.iastore, 1) := by decide +kernel
theorem dL_seed_17 : decode cL_seed 17 = .ok (.astore_n 1, 1) := by decide +kernel
theorem dL_seed_18 : decode cL_seed 18 = .ok (.iconst 0, 1) := by decide +kernel
theorem dL_seed_19 : decode cL_seed 19 = .ok (.istore_n 2, 1) := by decide +kernel
theorem dL_seed_20 : decode cL_seed 20 = .ok (.iload_n 2, 1) := by decide +kernel
theorem dL_seed_21 : decode cL_seed 21 = .ok (.aload_n 0, 1) := by decide +kernel
theorem dL_seed_22 : decode cL_seed 22 = .ok (.arraylength, 1) := by decide +kernel
theorem dL_seed_23 : decode cL_seed 23 = .ok (.if_icmp .ge 44, 3) := by decide +kernel
theorem dL_seed_26 : decode cL_seed 26 = .ok (.aload_n 1, 1) := by decide +kernel
theorem dL_seed_27 : decode cL_seed 27 = .ok (.iconst 0, 1) := by decide +kernel
theorem dL_seed_28 : decode cL_seed 28 = .ok (.aload_n 1, 1) := by decide +kernel
theorem dL_seed_29 : decode cL_seed 29 = .ok (.iconst 0, 1) := by decide +kernel
theorem dL_seed_3 : decode cL_seed 3 = .ok (.dup, 1) := by decide +kernel
theorem dL_seed_30 : decode cL_seed 30 = .ok (.iaload, 1) := by decide +kernel
theorem dL_seed_31 : decode cL_seed 31 = .ok (.aload_n 0, 1) := by decide +kernel
theorem dL_seed_32 : decode cL_seed 32 = .ok (.iload_n 2, 1) := by decide +kernel
theorem dL_seed_33 : decode cL_seed 33 = .ok (.iaload, 1) := by decide +kernel
theorem dL_seed_34 : decode cL_seed 34 = .ok (.ixor, 1) := by decide +kernel
theorem dL_seed_35 : decode cL_seed 35 = .ok (.ldc 10, 2) := by decide +kernel
theorem dL_seed_37 : decode cL_seed 37 = .ok (.imul, 1) := by decide +kernel
theorem dL_seed_38 : decode cL_seed 38 = .ok (.iload_n 2, 1) := by decide +kernel
theorem dL_seed_39 : decode cL_seed 39 = .ok (.iadd, 1) := by decide +kernel
theorem dL_seed_4 : decode cL_seed 4 = .ok (.iconst 0, 1) := by decide +kernel
theorem dL_seed_40 : decode cL_seed 40 = .ok (.iastore, 1) := by decide +kernel
theorem dL_seed_41 : decode cL_seed 41 = .ok (.aload_n 1, 1) := by decide +kernel
theorem dL_seed_42 : decode cL_seed 42 = .ok (.iconst 1, 1) := by decide +kernel
theorem dL_seed_43 : decode cL_seed 43 = .ok (.aload_n 1, 1) := by decide +kernel
theorem dL_seed_44 : decode cL_seed 44 = .ok (.iconst 1, 1) := by decide +kernel
theorem dL_seed_45 : decode cL_seed 45 = .ok (.iaload, 1) := by decide +kernel
theorem dL_seed_46 : decode cL_seed 46 = .ok (.aload_n 0, 1) := by decide +kernel
theorem dL_seed_47 : decode cL_seed 47 = .ok (.iload_n 2, 1) := by decide +kernel
theorem dL_seed_48 : decode cL_seed 48 = .ok (.iaload, 1) := by decide +kernel
theorem dL_seed_49 : decode cL_seed 49 = .ok (.iadd, 1) := by decide +kernel
theorem dL_seed_5 : decode cL_seed 5 = .ok (.aload_n 0, 1) := by decide +kernel
theorem dL_seed_50 : decode cL_seed 50 = .ok (.ldc 11, 2) := by decide +kernel
theorem dL_seed_52 : decode cL_seed 52 = .ok (.imul, 1) := by decide +kernel
theorem dL_seed_53 : decode cL_seed 53 = .ok (.aload_n 1, 1) := by decide +kernel
theorem dL_seed_54 : decode cL_seed 54 = .ok (.iconst 0, 1) := by decide +kernel
theorem dL_seed_55 : decode cL_seed 55 = .ok (.iaload, 1) := by decide +kernel
theorem dL_seed_56 : decode cL_seed 56 = .ok (.bipush 7, 2) := by decide +kernel
theorem dL_seed_58 : decode cL_seed 58 = .ok (.iushr, 1) := by decide +kernel
theorem dL_seed_59 : decode cL_seed 59 = .ok (.iadd, 1) := by decide +kernel
theorem dL_seed_6 : decode cL_seed 6 = .ok (.arraylength, 1) := by decide +kernel
theorem dL_seed_60 : decode cL_seed 60 = .ok (.iastore, 1) := by decide +kernel
theorem dL_seed_61 : decode cL_seed 61 = .ok (.iinc 2 1, 3) := by decide +kernel
theorem dL_seed_64 : decode cL_seed 64 = .ok (.goto (-44), 3) := by decide +kernel
theorem dL_seed_67 : decode cL_seed 67 = .ok (.aload_n 1, 1) := by decide +kernel
theorem dL_seed_68 : decode cL_seed 68 = .ok (.areturn, 1) := by decide +kernel
theorem dL_seed_7 : decode cL_seed 7 = .ok (.sipush 12345, 3) := by decide +kernel
set_option maxRecDepth 20000 in
theorem ggL_rows_X9_clearRow : GoodIn wsL_rows wsX9_clearRow := goodIn_r _ [5, 6, 7, 8, 9, 10, 11, 12, 13, 14, 15, 16, 17, 18, 19, 20, 50, 51, 52, 53, 54, 55, 56, 57, 58, 59, 60] (by decide +kernel) (by decide +kernel)
set_option maxRecDepth 20000 in
theorem gL_rows_X9_clearRow : GoodIn wsL_rows (wsV RL 166 RX9 yX9_clearRow wsX9_clearRow) := goodIn_app (goodIn_of _ (by decide +kernel)) ggL_rows_X9_clearRow
set_option maxRecDepth 20000 in
theorem ggL_rows_X9_pay : GoodIn wsL_rows wsX9_pay := goodIn_ca (goodIn_ca (goodIn_r _ [24, 25, 26, 27, 6, 28, 29, 4, 30, 31, 32, 33, 34, 35, 36, 37, 38, 10, 39, 12, 40, 41, 42, 43, 44, 45, 46, 47, 48, 49, 50, 51, 52, 53, 54, 55, 56, 57, 58, 59, 60] (by decide +kernel) (by decide +kernel)) (goodIn_sub (fun _ h => List.mem_cons_of_mem _ (List.mem_append_left _ (List.mem_append_right _ h))) (by decide +kernel))) (goodIn_sub (fun _ h => List.mem_cons_of_mem _ (List.mem_append_right _ h)) (by decide +kernel))
set_option maxRecDepth 20000 in
theorem gL_rows_X9_pay : GoodIn wsL_rows (wsV RL 23 RX9 yX9_pay wsX9_pay) := goodIn_app (goodIn_of _ (by decide +kernel)) ggL_rows_X9_pay
