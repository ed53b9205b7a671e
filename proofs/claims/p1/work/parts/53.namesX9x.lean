-- printed rows that the walks use
theorem dX9_change_0 : decode cX9_change 0 = .ok (.aload_n 0, 1) := by decide +kernel
theorem dX9_change_1 : decode cX9_change 1 = .ok (.invokevirtual 152, 3) := by decide +kernel
theorem dX9_deathWorth_0 : decode cX9_deathWorth 0 = .ok (.aload_n 0, 1) := by decide +kernel
theorem dX9_deathWorth_1 : decode cX9_deathWorth 1 = .ok (.iload_n 1, 1) := by decide +kernel
theorem dX9_deathWorth_2 : decode cX9_deathWorth 2 = .ok (.lload_n 2, 1) := by decide +kernel
theorem dX9_deathWorth_3 : decode cX9_deathWorth 3 = .ok (.iload 4, 2) := by decide +kernel
theorem dX9_deathWorth_5 : decode cX9_deathWorth 5 = .ok (.invokevirtual 210, 3) := by decide +kernel
theorem dX9_demandBond_0 : decode cX9_demandBond 0 = .ok (.lload_n 0, 1) := by decide +kernel
theorem dX9_demandBond_1 : decode cX9_demandBond 1 = .ok (.lconst 0, 1) := by decide +kernel
theorem dX9_demandBond_11 : decode cX9_demandBond 11 = .ok (.lload_n 2, 1) := by decide +kernel
theorem dX9_demandBond_12 : decode cX9_demandBond 12 = .ok (.lconst 0, 1) := by decide +kernel
theorem dX9_demandBond_13 : decode cX9_demandBond 13 = .ok (.ldc2_w 91, 3) := by decide +kernel
theorem dX9_demandBond_16 : decode cX9_demandBond 16 = .ok (.invokestatic 63, 3) := by decide +kernel
theorem dX9_demandBond_19 : decode cX9_demandBond 19 = .ok (.invokestatic 67, 3) := by decide +kernel
theorem dX9_demandBond_2 : decode cX9_demandBond 2 = .ok (.ldc2_w 91, 3) := by decide +kernel
theorem dX9_demandBond_22 : decode cX9_demandBond 22 = .ok (.iload 4, 2) := by decide +kernel
theorem dX9_demandBond_24 : decode cX9_demandBond 24 = .ok (.i2l, 1) := by decide +kernel
theorem dX9_demandBond_25 : decode cX9_demandBond 25 = .ok (.lconst 1, 1) := by decide +kernel
theorem dX9_demandBond_26 : decode cX9_demandBond 26 = .ok (.ldc2_w 87, 3) := by decide +kernel
theorem dX9_demandBond_29 : decode cX9_demandBond 29 = .ok (.invokestatic 63, 3) := by decide +kernel
theorem dX9_demandBond_32 : decode cX9_demandBond 32 = .ok (.invokestatic 67, 3) := by decide +kernel
theorem dX9_demandBond_35 : decode cX9_demandBond 35 = .ok (.return_, 1) := by decide +kernel
theorem dX9_demandBond_5 : decode cX9_demandBond 5 = .ok (.invokestatic 63, 3) := by decide +kernel
theorem dX9_demandBond_8 : decode cX9_demandBond 8 = .ok (.invokestatic 67, 3) := by decide +kernel
theorem dX9_demandElement_11 : decode cX9_demandElement 11 = .ok (.invokespecial 297, 3) := by decide +kernel
theorem dX9_demandElement_14 : decode cX9_demandElement 14 = .ok (.athrow, 1) := by decide +kernel
theorem dX9_demandElement_4 : decode cX9_demandElement 4 = .ok (.new 293, 3) := by decide +kernel
theorem dX9_demandElement_7 : decode cX9_demandElement 7 = .ok (.dup, 1) := by decide +kernel
theorem dX9_demandElement_8 : decode cX9_demandElement 8 = .ok (.ldc_w 295, 3) := by decide +kernel
theorem dX9_demandInsured_0 : decode cX9_demandInsured 0 = .ok (.lload_n 2, 1) := by decide +kernel
theorem dX9_demandInsured_1 : decode cX9_demandInsured 1 = .ok (.lconst 0, 1) := by decide +kernel
theorem dX9_demandInsured_11 : decode cX9_demandInsured 11 = .ok (.iload 4, 2) := by decide +kernel
theorem dX9_demandInsured_13 : decode cX9_demandInsured 13 = .ok (.invokestatic 114, 3) := by decide +kernel
theorem dX9_demandInsured_16 : decode cX9_demandInsured 16 = .ok (.iload_n 1, 1) := by decide +kernel
theorem dX9_demandInsured_17 : decode cX9_demandInsured 17 = .ok (.i2l, 1) := by decide +kernel
theorem dX9_demandInsured_18 : decode cX9_demandInsured 18 = .ok (.lconst 0, 1) := by decide +kernel
theorem dX9_demandInsured_19 : decode cX9_demandInsured 19 = .ok (.aload_n 0, 1) := by decide +kernel
theorem dX9_demandInsured_2 : decode cX9_demandInsured 2 = .ok (.ldc2_w 91, 3) := by decide +kernel
theorem dX9_demandInsured_20 : decode cX9_demandInsured 20 = .ok (.getfield 33, 3) := by decide +kernel
theorem dX9_demandInsured_23 : decode cX9_demandInsured 23 = .ok (.getfield 203, 3) := by decide +kernel
theorem dX9_demandInsured_26 : decode cX9_demandInsured 26 = .ok (.iconst 1, 1) := by decide +kernel
theorem dX9_demandInsured_27 : decode cX9_demandInsured 27 = .ok (.isub, 1) := by decide +kernel
theorem dX9_demandInsured_28 : decode cX9_demandInsured 28 = .ok (.i2l, 1) := by decide +kernel
theorem dX9_demandInsured_29 : decode cX9_demandInsured 29 = .ok (.invokestatic 63, 3) := by decide +kernel
theorem dX9_demandInsured_32 : decode cX9_demandInsured 32 = .ok (.invokestatic 179, 3) := by decide +kernel
theorem dX9_demandInsured_5 : decode cX9_demandInsured 5 = .ok (.invokestatic 63, 3) := by decide +kernel
theorem dX9_demandInsured_8 : decode cX9_demandInsured 8 = .ok (.invokestatic 67, 3) := by decide +kernel
theorem dX9_demandLoan_0 : decode cX9_demandLoan 0 = .ok (.aload_n 0, 1) := by decide +kernel
theorem dX9_demandLoan_1 : decode cX9_demandLoan 1 = .ok (.getfield 54, 3) := by decide +kernel
theorem dX9_demandLoan_14 : decode cX9_demandLoan 14 = .ok (.iconst 0, 1) := by decide +kernel
theorem dX9_demandLoan_15 : decode cX9_demandLoan 15 = .ok (.invokestatic 129, 3) := by decide +kernel
theorem dX9_demandLoan_4 : decode cX9_demandLoan 4 = .ok (.getfield 155, 3) := by decide +kernel
theorem dX9_demandLoan_7 : decode cX9_demandLoan 7 = .ok (.ifCond .le 7, 3) := by decide +kernel
theorem dX9_demandRate_0 : decode cX9_demandRate 0 = .ok (.iload_n 0, 1) := by decide +kernel
theorem dX9_demandRate_1 : decode cX9_demandRate 1 = .ok (.i2l, 1) := by decide +kernel
theorem dX9_demandRate_12 : decode cX9_demandRate 12 = .ok (.return_, 1) := by decide +kernel
theorem dX9_demandRate_2 : decode cX9_demandRate 2 = .ok (.lconst 0, 1) := by decide +kernel
theorem dX9_demandRate_3 : decode cX9_demandRate 3 = .ok (.ldc2_w 279, 3) := by decide +kernel
theorem dX9_demandRate_6 : decode cX9_demandRate 6 = .ok (.invokestatic 63, 3) := by decide +kernel
theorem dX9_demandRate_9 : decode cX9_demandRate 9 = .ok (.invokestatic 67, 3) := by decide +kernel
theorem dX9_demandState_11 : decode cX9_demandState 11 = .ok (.invokespecial 292, 3) := by decide +kernel
theorem dX9_demandState_14 : decode cX9_demandState 14 = .ok (.athrow, 1) := by decide +kernel
theorem dX9_demandState_4 : decode cX9_demandState 4 = .ok (.new 288, 3) := by decide +kernel
theorem dX9_demandState_7 : decode cX9_demandState 7 = .ok (.dup, 1) := by decide +kernel
theorem dX9_demandState_8 : decode cX9_demandState 8 = .ok (.ldc_w 290, 3) := by decide +kernel
theorem dX9_demand_11 : decode cX9_demand 11 = .ok (.invokespecial 285, 3) := by decide +kernel
theorem dX9_demand_14 : decode cX9_demand 14 = .ok (.athrow, 1) := by decide +kernel
theorem dX9_demand_4 : decode cX9_demand 4 = .ok (.new 281, 3) := by decide +kernel
theorem dX9_demand_7 : decode cX9_demand 7 = .ok (.dup, 1) := by decide +kernel
theorem dX9_demand_8 : decode cX9_demand 8 = .ok (.ldc_w 283, 3) := by decide +kernel
theorem dX9_early_0 : decode cX9_early 0 = .ok (.aload_n 0, 1) := by decide +kernel
theorem dX9_early_1 : decode cX9_early 1 = .ok (.invokevirtual 152, 3) := by decide +kernel
theorem dX9_holiday_0 : decode cX9_holiday 0 = .ok (.aload_n 0, 1) := by decide +kernel
theorem dX9_holiday_1 : decode cX9_holiday 1 = .ok (.invokevirtual 152, 3) := by decide +kernel
theorem dX9_lifeWorth_0 : decode cX9_lifeWorth 0 = .ok (.aload_n 0, 1) := by decide +kernel
theorem dX9_lifeWorth_1 : decode cX9_lifeWorth 1 = .ok (.iload_n 1, 1) := by decide +kernel
theorem dX9_lifeWorth_2 : decode cX9_lifeWorth 2 = .ok (.lload_n 2, 1) := by decide +kernel
theorem dX9_lifeWorth_3 : decode cX9_lifeWorth 3 = .ok (.iload 4, 2) := by decide +kernel
theorem dX9_lifeWorth_5 : decode cX9_lifeWorth 5 = .ok (.invokevirtual 210, 3) := by decide +kernel
theorem dX9_premium_0 : decode cX9_premium 0 = .ok (.aload_n 0, 1) := by decide +kernel
theorem dX9_premium_1 : decode cX9_premium 1 = .ok (.iload_n 1, 1) := by decide +kernel
theorem dX9_premium_2 : decode cX9_premium 2 = .ok (.lload_n 2, 1) := by decide +kernel
theorem dX9_premium_3 : decode cX9_premium 3 = .ok (.iload 4, 2) := by decide +kernel
theorem dX9_premium_5 : decode cX9_premium 5 = .ok (.invokevirtual 210, 3) := by decide +kernel
theorem dX9_reserve_0 : decode cX9_reserve 0 = .ok (.iload_n 2, 1) := by decide +kernel
theorem dX9_reserve_1 : decode cX9_reserve 1 = .ok (.ifCond .lt 7, 3) := by decide +kernel
theorem dX9_reserve_12 : decode cX9_reserve 12 = .ok (.aload_n 0, 1) := by decide +kernel
theorem dX9_reserve_13 : decode cX9_reserve 13 = .ok (.iload_n 1, 1) := by decide +kernel
theorem dX9_reserve_14 : decode cX9_reserve 14 = .ok (.lload_n 3, 1) := by decide +kernel
theorem dX9_reserve_15 : decode cX9_reserve 15 = .ok (.iload 5, 2) := by decide +kernel
theorem dX9_reserve_17 : decode cX9_reserve 17 = .ok (.invokevirtual 210, 3) := by decide +kernel
theorem dX9_reserve_4 : decode cX9_reserve 4 = .ok (.iconst 1, 1) := by decide +kernel
theorem dX9_reserve_5 : decode cX9_reserve 5 = .ok (.goto 4, 3) := by decide +kernel
theorem dX9_reserve_8 : decode cX9_reserve 8 = .ok (.iconst 0, 1) := by decide +kernel
theorem dX9_reserve_9 : decode cX9_reserve 9 = .ok (.invokestatic 67, 3) := by decide +kernel
theorem dX9_rowOf_0 : decode cX9_rowOf 0 = .ok (.aload_n 0, 1) := by decide +kernel
theorem dX9_rowOf_1 : decode cX9_rowOf 1 = .ok (.invokevirtual 152, 3) := by decide +kernel
theorem dX9_rows_0 : decode cX9_rows 0 = .ok (.aload_n 0, 1) := by decide +kernel
theorem dX9_rows_1 : decode cX9_rows 1 = .ok (.invokevirtual 152, 3) := by decide +kernel
theorem dX9_total_0 : decode cX9_total 0 = .ok (.aload_n 0, 1) := by decide +kernel
theorem dX9_total_1 : decode cX9_total 1 = .ok (.invokevirtual 152, 3) := by decide +kernel
set_option maxRecDepth 20000 in
theorem ggX9_change_X9_demandLoan : GoodIn wsX9_change wsX9_demandLoan := goodIn_ca (goodIn_r _ [11, 2, 3, 12, 13, 10, 14, 15, 16, 201, 202, 203, 204, 205, 206, 207, 208, 209, 210, 211, 212, 213, 214, 215, 216] (by decide +kernel) (by decide +kernel)) (goodIn_sub (fun _ h => List.mem_cons_of_mem _ (List.mem_append_left _ (List.mem_append_right _ h))) (by decide +kernel))
set_option maxRecDepth 20000 in
theorem gX9_change_X9_demandLoan : GoodIn wsX9_change (wsV RX9 152 RX9 yX9_demandLoan wsX9_demandLoan) := goodIn_app (goodIn_of _ (by decide +kernel)) ggX9_change_X9_demandLoan
set_option maxRecDepth 20000 in
theorem ggX9_deathWorth_X9_demandInsured : GoodIn wsX9_deathWorth wsX9_demandInsured := goodIn_ca (goodIn_ca (goodIn_r _ [7, 8, 1, 9, 10, 11, 6, 12, 13, 14, 15, 16, 17, 18, 19, 20, 21, 22, 23, 24, 25, 26, 173, 174, 175, 176, 177, 178, 179, 180, 181, 182, 183, 184] (by decide +kernel) (by decide +kernel)) (goodIn_sub (fun _ h => List.mem_cons_of_mem _ (List.mem_append_left _ (List.mem_append_left _ (List.mem_append_right _ h)))) (by decide +kernel))) (goodIn_sub (fun _ h => List.mem_cons_of_mem _ (List.mem_append_left _ (List.mem_append_right _ h))) (by decide +kernel))
set_option maxRecDepth 20000 in
theorem gX9_deathWorth_X9_demandInsured : GoodIn wsX9_deathWorth (wsV RX9 210 RX9 yX9_demandInsured wsX9_demandInsured) := goodIn_app (goodIn_of _ (by decide +kernel)) ggX9_deathWorth_X9_demandInsured
set_option maxRecDepth 20000 in
theorem ggX9_demandBond_X9_demand : GoodIn wsX9_demandBond wsX9_demand := goodIn_ca (goodIn_r _ [9, 10, 11] (by decide +kernel) (by decide +kernel)) (goodIn_sub (fun _ h => List.mem_cons_of_mem _ (List.mem_append_right _ h)) (by decide +kernel))
set_option maxRecDepth 20000 in
theorem gX9_demandBond_X9_demand : GoodIn wsX9_demandBond (va_wsS RX9 67 yX9_demand wsX9_demand) := goodIn_app (goodIn_of _ (by decide +kernel)) ggX9_demandBond_X9_demand
set_option maxRecDepth 20000 in
theorem ggX9_demandBond_X9_isWithin : GoodIn wsX9_demandBond wsX9_isWithin := goodIn_r _ [6] (by decide +kernel) (by decide +kernel)
set_option maxRecDepth 20000 in
theorem gX9_demandBond_X9_isWithin : GoodIn wsX9_demandBond (va_wsS RX9 63 yX9_isWithin wsX9_isWithin) := goodIn_app (goodIn_of _ (by decide +kernel)) ggX9_demandBond_X9_isWithin
set_option maxRecDepth 20000 in
theorem ggX9_demandInsured_X9_demand : GoodIn wsX9_demandInsured wsX9_demand := goodIn_ca (goodIn_r _ [10, 11, 12] (by decide +kernel) (by decide +kernel)) (goodIn_sub (fun _ h => List.mem_cons_of_mem _ (List.mem_append_left _ (List.mem_append_right _ h))) (by decide +kernel))
set_option maxRecDepth 20000 in
theorem gX9_demandInsured_X9_demand : GoodIn wsX9_demandInsured (va_wsS RX9 67 yX9_demand wsX9_demand) := goodIn_app (goodIn_of _ (by decide +kernel)) ggX9_demandInsured_X9_demand
set_option maxRecDepth 20000 in
theorem ggX9_demandInsured_X9_demandElement : GoodIn wsX9_demandInsured wsX9_demandElement := goodIn_ca (goodIn_r _ [19, 20, 21] (by decide +kernel) (by decide +kernel)) (goodIn_sub (fun _ h => List.mem_cons_of_mem _ (List.mem_append_right _ h)) (by decide +kernel))
set_option maxRecDepth 20000 in
theorem gX9_demandInsured_X9_demandElement : GoodIn wsX9_demandInsured (va_wsS RX9 179 yX9_demandElement wsX9_demandElement) := goodIn_app (goodIn_of _ (by decide +kernel)) ggX9_demandInsured_X9_demandElement
set_option maxRecDepth 20000 in
theorem ggX9_demandInsured_X9_demandRate : GoodIn wsX9_demandInsured wsX9_demandRate := goodIn_ca (goodIn_r _ [15, 16, 4, 5, 6, 7, 8, 9, 10, 11, 12] (by decide +kernel) (by decide +kernel)) (goodIn_sub (fun _ h => List.mem_cons_of_mem _ (List.mem_append_left _ (List.mem_append_right _ h))) (by decide +kernel))
set_option maxRecDepth 20000 in
theorem gX9_demandInsured_X9_demandRate : GoodIn wsX9_demandInsured (va_wsS RX9 114 yX9_demandRate wsX9_demandRate) := goodIn_app (goodIn_of _ (by decide +kernel)) ggX9_demandInsured_X9_demandRate
set_option maxRecDepth 20000 in
theorem ggX9_demandInsured_X9_isWithin : GoodIn wsX9_demandInsured wsX9_isWithin := goodIn_r _ [7] (by decide +kernel) (by decide +kernel)
set_option maxRecDepth 20000 in
theorem gX9_demandInsured_X9_isWithin : GoodIn wsX9_demandInsured (va_wsS RX9 63 yX9_isWithin wsX9_isWithin) := goodIn_app (goodIn_of _ (by decide +kernel)) ggX9_demandInsured_X9_isWithin
set_option maxRecDepth 20000 in
theorem ggX9_demandLoan_X9_demandState : GoodIn wsX9_demandLoan wsX9_demandState := goodIn_ca (goodIn_r _ [6, 7, 8] (by decide +kernel) (by decide +kernel)) (goodIn_sub (fun _ h => List.mem_cons_of_mem _ (List.mem_append_right _ h)) (by decide +kernel))
set_option maxRecDepth 20000 in
theorem gX9_demandLoan_X9_demandState : GoodIn wsX9_demandLoan (va_wsS RX9 129 yX9_demandState wsX9_demandState) := goodIn_app (goodIn_of _ (by decide +kernel)) ggX9_demandLoan_X9_demandState
set_option maxRecDepth 20000 in
theorem ggX9_demandRate_X9_demand : GoodIn wsX9_demandRate wsX9_demand := goodIn_ca (goodIn_r _ [8, 9, 10] (by decide +kernel) (by decide +kernel)) (goodIn_sub (fun _ h => List.mem_cons_of_mem _ (List.mem_append_right _ h)) (by decide +kernel))
set_option maxRecDepth 20000 in
theorem gX9_demandRate_X9_demand : GoodIn wsX9_demandRate (va_wsS RX9 67 yX9_demand wsX9_demand) := goodIn_app (goodIn_of _ (by decide +kernel)) ggX9_demandRate_X9_demand
set_option maxRecDepth 20000 in
theorem ggX9_demandRate_X9_isWithin : GoodIn wsX9_demandRate wsX9_isWithin := goodIn_r _ [5] (by decide +kernel) (by decide +kernel)
set_option maxRecDepth 20000 in
theorem gX9_demandRate_X9_isWithin : GoodIn wsX9_demandRate (va_wsS RX9 63 yX9_isWithin wsX9_isWithin) := goodIn_app (goodIn_of _ (by decide +kernel)) ggX9_demandRate_X9_isWithin
set_option maxRecDepth 20000 in
theorem ggX9_early_X9_demandLoan : GoodIn wsX9_early wsX9_demandLoan := goodIn_ca (goodIn_r _ [11, 1, 2, 12, 13, 10, 14, 15, 16, 197, 198, 199, 200, 201, 202, 203, 204, 205, 206, 207, 208, 209, 210, 211, 212] (by decide +kernel) (by decide +kernel)) (goodIn_sub (fun _ h => List.mem_cons_of_mem _ (List.mem_append_left _ (List.mem_append_right _ h))) (by decide +kernel))
set_option maxRecDepth 20000 in
theorem gX9_early_X9_demandLoan : GoodIn wsX9_early (wsV RX9 152 RX9 yX9_demandLoan wsX9_demandLoan) := goodIn_app (goodIn_of _ (by decide +kernel)) ggX9_early_X9_demandLoan
set_option maxRecDepth 20000 in
theorem ggX9_holiday_X9_demandLoan : GoodIn wsX9_holiday wsX9_demandLoan := goodIn_ca (goodIn_r _ [9, 1, 2, 10, 11, 8, 12, 13, 14, 195, 196, 197, 198, 199, 200, 201, 202, 203, 204, 205, 206, 207, 208, 209, 210] (by decide +kernel) (by decide +kernel)) (goodIn_sub (fun _ h => List.mem_cons_of_mem _ (List.mem_append_left _ (List.mem_append_right _ h))) (by decide +kernel))
set_option maxRecDepth 20000 in
theorem gX9_holiday_X9_demandLoan : GoodIn wsX9_holiday (wsV RX9 152 RX9 yX9_demandLoan wsX9_demandLoan) := goodIn_app (goodIn_of _ (by decide +kernel)) ggX9_holiday_X9_demandLoan
set_option maxRecDepth 20000 in
theorem ggX9_lifeWorth_X9_demandInsured : GoodIn wsX9_lifeWorth wsX9_demandInsured := goodIn_ca (goodIn_ca (goodIn_r _ [7, 8, 1, 9, 10, 11, 6, 12, 13, 14, 15, 16, 17, 18, 19, 20, 21, 22, 23, 24, 25, 26, 173, 174, 175, 176, 177, 178, 179, 180, 181, 182, 183, 184] (by decide +kernel) (by decide +kernel)) (goodIn_sub (fun _ h => List.mem_cons_of_mem _ (List.mem_append_left _ (List.mem_append_left _ (List.mem_append_right _ h)))) (by decide +kernel))) (goodIn_sub (fun _ h => List.mem_cons_of_mem _ (List.mem_append_left _ (List.mem_append_right _ h))) (by decide +kernel))
set_option maxRecDepth 20000 in
theorem gX9_lifeWorth_X9_demandInsured : GoodIn wsX9_lifeWorth (wsV RX9 210 RX9 yX9_demandInsured wsX9_demandInsured) := goodIn_app (goodIn_of _ (by decide +kernel)) ggX9_lifeWorth_X9_demandInsured
set_option maxRecDepth 20000 in
theorem ggX9_premium_X9_demandInsured : GoodIn wsX9_premium wsX9_demandInsured := goodIn_ca (goodIn_ca (goodIn_r _ [7, 8, 1, 9, 10, 11, 6, 12, 13, 14, 15, 16, 17, 18, 19, 20, 21, 22, 23, 24, 25, 26, 169, 170, 171, 172, 173, 174, 175, 176, 177, 178, 179, 180] (by decide +kernel) (by decide +kernel)) (goodIn_sub (fun _ h => List.mem_cons_of_mem _ (List.mem_append_left _ (List.mem_append_left _ (List.mem_append_right _ h)))) (by decide +kernel))) (goodIn_sub (fun _ h => List.mem_cons_of_mem _ (List.mem_append_left _ (List.mem_append_right _ h))) (by decide +kernel))
set_option maxRecDepth 20000 in
theorem gX9_premium_X9_demandInsured : GoodIn wsX9_premium (wsV RX9 210 RX9 yX9_demandInsured wsX9_demandInsured) := goodIn_app (goodIn_of _ (by decide +kernel)) ggX9_premium_X9_demandInsured
set_option maxRecDepth 20000 in
theorem ggX9_reserve_X9_demand : GoodIn wsX9_reserve wsX9_demand := goodIn_ca (goodIn_r _ [7, 8, 9] (by decide +kernel) (by decide +kernel)) (goodIn_sub (fun _ h => List.mem_cons_of_mem _ (List.mem_append_left _ (List.mem_append_left _ (List.mem_append_right _ h)))) (by decide +kernel))
set_option maxRecDepth 20000 in
theorem gX9_reserve_X9_demand : GoodIn wsX9_reserve (va_wsS RX9 67 yX9_demand wsX9_demand) := goodIn_app (goodIn_of _ (by decide +kernel)) ggX9_reserve_X9_demand
set_option maxRecDepth 20000 in
theorem ggX9_reserve_X9_demandInsured : GoodIn wsX9_reserve wsX9_demandInsured := goodIn_ca (goodIn_ca (goodIn_r _ [13, 14, 1, 2, 15, 16, 6, 17, 4, 5, 7, 8, 9, 18, 19, 20, 21, 22, 23, 24, 25, 26, 171, 172, 173, 174, 175, 176, 177, 178, 179, 180, 181, 182] (by decide +kernel) (by decide +kernel)) (goodIn_sub (fun _ h => List.mem_cons_of_mem _ (List.mem_append_left _ (List.mem_append_left _ (List.mem_append_right _ h)))) (by decide +kernel))) (goodIn_sub (fun _ h => List.mem_cons_of_mem _ (List.mem_append_left _ (List.mem_append_right _ h))) (by decide +kernel))
set_option maxRecDepth 20000 in
theorem gX9_reserve_X9_demandInsured : GoodIn wsX9_reserve (wsV RX9 210 RX9 yX9_demandInsured wsX9_demandInsured) := goodIn_app (goodIn_of _ (by decide +kernel)) ggX9_reserve_X9_demandInsured
set_option maxRecDepth 20000 in
theorem ggX9_rowOf_X9_demandLoan : GoodIn wsX9_rowOf wsX9_demandLoan := goodIn_ca (goodIn_r _ [8, 2, 9, 10, 11, 7, 12, 13, 14, 34, 35, 36, 37, 38, 39, 40, 41, 42, 43, 44, 45, 46, 47, 48, 49] (by decide +kernel) (by decide +kernel)) (goodIn_sub (fun _ h => List.mem_cons_of_mem _ (List.mem_append_left _ (List.mem_append_left _ (List.mem_append_right _ h)))) (by decide +kernel))
set_option maxRecDepth 20000 in
theorem gX9_rowOf_X9_demandLoan : GoodIn wsX9_rowOf (wsV RX9 152 RX9 yX9_demandLoan wsX9_demandLoan) := goodIn_app (goodIn_of _ (by decide +kernel)) ggX9_rowOf_X9_demandLoan
set_option maxRecDepth 20000 in
theorem ggX9_rows_X9_demandLoan : GoodIn wsX9_rows wsX9_demandLoan := goodIn_ca (goodIn_r _ [7, 1, 8, 9, 10, 6, 11, 12, 13, 14, 15, 16, 17, 18, 19, 20, 21, 22, 23, 24, 25, 26, 27, 28, 29] (by decide +kernel) (by decide +kernel)) (goodIn_sub (fun _ h => List.mem_cons_of_mem _ (List.mem_append_right _ h)) (by decide +kernel))
set_option maxRecDepth 20000 in
theorem gX9_rows_X9_demandLoan : GoodIn wsX9_rows (wsV RX9 152 RX9 yX9_demandLoan wsX9_demandLoan) := goodIn_app (goodIn_of _ (by decide +kernel)) ggX9_rows_X9_demandLoan
set_option maxRecDepth 20000 in
theorem ggX9_total_X9_demandLoan : GoodIn wsX9_total wsX9_demandLoan := goodIn_ca (goodIn_r _ [7, 2, 8, 9, 10, 6, 11, 12, 13, 29, 30, 31, 32, 33, 34, 35, 36, 37, 38, 39, 40, 41, 42, 43, 44] (by decide +kernel) (by decide +kernel)) (goodIn_sub (fun _ h => List.mem_cons_of_mem _ (List.mem_append_left _ (List.mem_append_right _ h))) (by decide +kernel))
set_option maxRecDepth 20000 in
theorem gX9_total_X9_demandLoan : GoodIn wsX9_total (wsV RX9 152 RX9 yX9_demandLoan wsX9_demandLoan) := goodIn_app (goodIn_of _ (by decide +kernel)) ggX9_total_X9_demandLoan
