-- printed rows that the walks use
theorem dX9_deathWorth_0 : decode cX9_deathWorth 0 = .ok (.aload_n 0, 1) := by decide +kernel
theorem dX9_deathWorth_1 : decode cX9_deathWorth 1 = .ok (.iload_n 1, 1) := by decide +kernel
theorem dX9_deathWorth_12 : decode cX9_deathWorth 12 = .ok (.iload_n 1, 1) := by decide +kernel
theorem dX9_deathWorth_13 : decode cX9_deathWorth 13 = .ok (.lload_n 2, 1) := by decide +kernel
theorem dX9_deathWorth_14 : decode cX9_deathWorth 14 = .ok (.iload 4, 2) := by decide +kernel
theorem dX9_deathWorth_16 : decode cX9_deathWorth 16 = .ok (.aload_n 0, 1) := by decide +kernel
theorem dX9_deathWorth_17 : decode cX9_deathWorth 17 = .ok (.getfield 10, 3) := by decide +kernel
theorem dX9_deathWorth_2 : decode cX9_deathWorth 2 = .ok (.lload_n 2, 1) := by decide +kernel
theorem dX9_deathWorth_20 : decode cX9_deathWorth 20 = .ok (.invokevirtual 218, 3) := by decide +kernel
theorem dX9_deathWorth_23 : decode cX9_deathWorth 23 = .ok (.lreturn, 1) := by decide +kernel
theorem dX9_deathWorth_3 : decode cX9_deathWorth 3 = .ok (.iload 4, 2) := by decide +kernel
theorem dX9_deathWorth_5 : decode cX9_deathWorth 5 = .ok (.invokevirtual 210, 3) := by decide +kernel
theorem dX9_deathWorth_8 : decode cX9_deathWorth 8 = .ok (.aload_n 0, 1) := by decide +kernel
theorem dX9_deathWorth_9 : decode cX9_deathWorth 9 = .ok (.getfield 33, 3) := by decide +kernel
theorem dX9_demandInsured_0 : decode cX9_demandInsured 0 = .ok (.lload_n 2, 1) := by decide +kernel
theorem dX9_demandInsured_1 : decode cX9_demandInsured 1 = .ok (.lconst 0, 1) := by decide +kernel
theorem dX9_demandInsured_11 : decode cX9_demandInsured 11 = .ok (.iload 4, 2) := by decide +kernel
theorem dX9_demandInsured_13 : decode cX9_demandInsured 13 = .ok (.invokestatic 114, 3) := by decide +kernel
theorem dX9_demandInsured_16 : decode cX9_demandInsured 16 = .ok (.iload_n 1, 1) := by decide +kernel
theorem dX9_demandInsured_17 : decode cX9_demandInsured 17 = .ok (.i2l, 1) := by decide +kernel
theorem dX9_demandInsured_18 : decode cX9_demandInsured 18 = .ok (.lconst 0, 1) := by decide +kernel
theorem dX9_demandInsured_19 : decode cX9_demandInsured 19 = .ok (.aload_n 0, 1) := by decide +kernel
theorem dX9_demandInsured_2 : decode cX9_demandInsured 2 = .ok (.ldc2_w 91, 3) := by decide +kernel
theorem dX9_demandInsured_20 : decode cX9_demandInsured 20 = .ok (.getfield 33, 3) := by decide +kernel
theorem dX9_demandInsured_23 : decode cX9_demandInsured 23 = .ok (.getfield 203, 3) := by decide +kernel
theorem dX9_demandInsured_26 : decode cX9_demandInsured 26 = .ok (.iconst 1, 1) := by decide +kernel
theorem dX9_demandInsured_27 : decode cX9_demandInsured 27 = .ok (.isub, 1) := by decide +kernel
theorem dX9_demandInsured_28 : decode cX9_demandInsured 28 = .ok (.i2l, 1) := by decide +kernel
theorem dX9_demandInsured_29 : decode cX9_demandInsured 29 = .ok (.invokestatic 63, 3) := by decide +kernel
theorem dX9_demandInsured_32 : decode cX9_demandInsured 32 = .ok (.invokestatic 179, 3) := by decide +kernel
theorem dX9_demandInsured_35 : decode cX9_demandInsured 35 = .ok (.return_, 1) := by decide +kernel
theorem dX9_demandInsured_5 : decode cX9_demandInsured 5 = .ok (.invokestatic 63, 3) := by decide +kernel
theorem dX9_demandInsured_8 : decode cX9_demandInsured 8 = .ok (.invokestatic 67, 3) := by decide +kernel
theorem dX9_lifeWorth_0 : decode cX9_lifeWorth 0 = .ok (.aload_n 0, 1) := by decide +kernel
theorem dX9_lifeWorth_1 : decode cX9_lifeWorth 1 = .ok (.iload_n 1, 1) := by decide +kernel
theorem dX9_lifeWorth_12 : decode cX9_lifeWorth 12 = .ok (.iload_n 1, 1) := by decide +kernel
theorem dX9_lifeWorth_13 : decode cX9_lifeWorth 13 = .ok (.lload_n 2, 1) := by decide +kernel
theorem dX9_lifeWorth_14 : decode cX9_lifeWorth 14 = .ok (.iload 4, 2) := by decide +kernel
theorem dX9_lifeWorth_16 : decode cX9_lifeWorth 16 = .ok (.aload_n 0, 1) := by decide +kernel
theorem dX9_lifeWorth_17 : decode cX9_lifeWorth 17 = .ok (.getfield 10, 3) := by decide +kernel
theorem dX9_lifeWorth_2 : decode cX9_lifeWorth 2 = .ok (.lload_n 2, 1) := by decide +kernel
theorem dX9_lifeWorth_20 : decode cX9_lifeWorth 20 = .ok (.invokevirtual 214, 3) := by decide +kernel
theorem dX9_lifeWorth_23 : decode cX9_lifeWorth 23 = .ok (.lreturn, 1) := by decide +kernel
theorem dX9_lifeWorth_3 : decode cX9_lifeWorth 3 = .ok (.iload 4, 2) := by decide +kernel
theorem dX9_lifeWorth_5 : decode cX9_lifeWorth 5 = .ok (.invokevirtual 210, 3) := by decide +kernel
theorem dX9_lifeWorth_8 : decode cX9_lifeWorth 8 = .ok (.aload_n 0, 1) := by decide +kernel
theorem dX9_lifeWorth_9 : decode cX9_lifeWorth 9 = .ok (.getfield 33, 3) := by decide +kernel
theorem dX9_live_0 : decode cX9_live 0 = .ok (.iload_n 1, 1) := by decide +kernel
theorem dX9_live_1 : decode cX9_live 1 = .ok (.i2l, 1) := by decide +kernel
theorem dX9_live_10 : decode cX9_live 10 = .ok (.i2l, 1) := by decide +kernel
theorem dX9_live_11 : decode cX9_live 11 = .ok (.invokestatic 63, 3) := by decide +kernel
theorem dX9_live_14 : decode cX9_live 14 = .ok (.invokestatic 67, 3) := by decide +kernel
theorem dX9_live_17 : decode cX9_live 17 = .ok (.aload_n 0, 1) := by decide +kernel
theorem dX9_live_18 : decode cX9_live 18 = .ok (.getfield 33, 3) := by decide +kernel
theorem dX9_live_2 : decode cX9_live 2 = .ok (.lconst 1, 1) := by decide +kernel
theorem dX9_live_21 : decode cX9_live 21 = .ok (.getfield 203, 3) := by decide +kernel
theorem dX9_live_24 : decode cX9_live 24 = .ok (.bipush 30, 2) := by decide +kernel
theorem dX9_live_26 : decode cX9_live 26 = .ok (.if_icmp .ge 7, 3) := by decide +kernel
theorem dX9_live_29 : decode cX9_live 29 = .ok (.iconst 1, 1) := by decide +kernel
theorem dX9_live_3 : decode cX9_live 3 = .ok (.aload_n 0, 1) := by decide +kernel
theorem dX9_live_30 : decode cX9_live 30 = .ok (.goto 4, 3) := by decide +kernel
theorem dX9_live_33 : decode cX9_live 33 = .ok (.iconst 0, 1) := by decide +kernel
theorem dX9_live_34 : decode cX9_live 34 = .ok (.invokestatic 129, 3) := by decide +kernel
theorem dX9_live_37 : decode cX9_live 37 = .ok (.aload_n 0, 1) := by decide +kernel
theorem dX9_live_38 : decode cX9_live 38 = .ok (.getfield 33, 3) := by decide +kernel
theorem dX9_live_4 : decode cX9_live 4 = .ok (.getfield 33, 3) := by decide +kernel
theorem dX9_live_41 : decode cX9_live 41 = .ok (.iload_n 1, 1) := by decide +kernel
theorem dX9_live_42 : decode cX9_live 42 = .ok (.invokevirtual 206, 3) := by decide +kernel
theorem dX9_live_45 : decode cX9_live 45 = .ok (.ireturn, 1) := by decide +kernel
theorem dX9_live_7 : decode cX9_live 7 = .ok (.invokevirtual 200, 3) := by decide +kernel
theorem dX9_part_0 : decode cX9_part 0 = .ok (.lload_n 1, 1) := by decide +kernel
theorem dX9_part_1 : decode cX9_part 1 = .ok (.lconst 0, 1) := by decide +kernel
theorem dX9_part_11 : decode cX9_part 11 = .ok (.iload_n 3, 1) := by decide +kernel
theorem dX9_part_12 : decode cX9_part 12 = .ok (.i2l, 1) := by decide +kernel
theorem dX9_part_13 : decode cX9_part 13 = .ok (.lconst 0, 1) := by decide +kernel
theorem dX9_part_14 : decode cX9_part 14 = .ok (.aload_n 0, 1) := by decide +kernel
theorem dX9_part_15 : decode cX9_part 15 = .ok (.getfield 40, 3) := by decide +kernel
theorem dX9_part_18 : decode cX9_part 18 = .ok (.getfield 228, 3) := by decide +kernel
theorem dX9_part_2 : decode cX9_part 2 = .ok (.ldc2_w 77, 3) := by decide +kernel
theorem dX9_part_21 : decode cX9_part 21 = .ok (.iconst 1, 1) := by decide +kernel
theorem dX9_part_22 : decode cX9_part 22 = .ok (.isub, 1) := by decide +kernel
theorem dX9_part_23 : decode cX9_part 23 = .ok (.i2l, 1) := by decide +kernel
theorem dX9_part_24 : decode cX9_part 24 = .ok (.invokestatic 63, 3) := by decide +kernel
theorem dX9_part_27 : decode cX9_part 27 = .ok (.invokestatic 179, 3) := by decide +kernel
theorem dX9_part_30 : decode cX9_part 30 = .ok (.aload_n 0, 1) := by decide +kernel
theorem dX9_part_31 : decode cX9_part 31 = .ok (.getfield 40, 3) := by decide +kernel
theorem dX9_part_34 : decode cX9_part 34 = .ok (.invokevirtual 233, 3) := by decide +kernel
theorem dX9_part_37 : decode cX9_part 37 = .ok (.lconst 0, 1) := by decide +kernel
theorem dX9_part_38 : decode cX9_part 38 = .ok (.lcmp, 1) := by decide +kernel
theorem dX9_part_39 : decode cX9_part 39 = .ok (.ifCond .le 7, 3) := by decide +kernel
theorem dX9_part_42 : decode cX9_part 42 = .ok (.iconst 1, 1) := by decide +kernel
theorem dX9_part_43 : decode cX9_part 43 = .ok (.goto 4, 3) := by decide +kernel
theorem dX9_part_46 : decode cX9_part 46 = .ok (.iconst 0, 1) := by decide +kernel
theorem dX9_part_47 : decode cX9_part 47 = .ok (.invokestatic 179, 3) := by decide +kernel
theorem dX9_part_5 : decode cX9_part 5 = .ok (.invokestatic 63, 3) := by decide +kernel
theorem dX9_part_50 : decode cX9_part 50 = .ok (.aload_n 0, 1) := by decide +kernel
theorem dX9_part_51 : decode cX9_part 51 = .ok (.getfield 40, 3) := by decide +kernel
theorem dX9_part_54 : decode cX9_part 54 = .ok (.lload_n 1, 1) := by decide +kernel
theorem dX9_part_55 : decode cX9_part 55 = .ok (.iload_n 3, 1) := by decide +kernel
theorem dX9_part_56 : decode cX9_part 56 = .ok (.invokevirtual 237, 3) := by decide +kernel
theorem dX9_part_59 : decode cX9_part 59 = .ok (.lreturn, 1) := by decide +kernel
theorem dX9_part_8 : decode cX9_part 8 = .ok (.invokestatic 67, 3) := by decide +kernel
theorem dX9_premium_0 : decode cX9_premium 0 = .ok (.aload_n 0, 1) := by decide +kernel
theorem dX9_premium_1 : decode cX9_premium 1 = .ok (.iload_n 1, 1) := by decide +kernel
theorem dX9_premium_12 : decode cX9_premium 12 = .ok (.iload_n 1, 1) := by decide +kernel
theorem dX9_premium_13 : decode cX9_premium 13 = .ok (.lload_n 2, 1) := by decide +kernel
theorem dX9_premium_14 : decode cX9_premium 14 = .ok (.iload 4, 2) := by decide +kernel
theorem dX9_premium_16 : decode cX9_premium 16 = .ok (.aload_n 0, 1) := by decide +kernel
theorem dX9_premium_17 : decode cX9_premium 17 = .ok (.getfield 10, 3) := by decide +kernel
theorem dX9_premium_2 : decode cX9_premium 2 = .ok (.lload_n 2, 1) := by decide +kernel
theorem dX9_premium_20 : decode cX9_premium 20 = .ok (.invokevirtual 221, 3) := by decide +kernel
theorem dX9_premium_23 : decode cX9_premium 23 = .ok (.lreturn, 1) := by decide +kernel
theorem dX9_premium_3 : decode cX9_premium 3 = .ok (.iload 4, 2) := by decide +kernel
theorem dX9_premium_5 : decode cX9_premium 5 = .ok (.invokevirtual 210, 3) := by decide +kernel
theorem dX9_premium_8 : decode cX9_premium 8 = .ok (.aload_n 0, 1) := by decide +kernel
theorem dX9_premium_9 : decode cX9_premium 9 = .ok (.getfield 33, 3) := by decide +kernel
theorem dX9_step_0 : decode cX9_step 0 = .ok (.lload_n 1, 1) := by decide +kernel
theorem dX9_step_1 : decode cX9_step 1 = .ok (.aload_n 0, 1) := by decide +kernel
theorem dX9_step_11 : decode cX9_step 11 = .ok (.invokestatic 63, 3) := by decide +kernel
theorem dX9_step_14 : decode cX9_step 14 = .ok (.invokestatic 67, 3) := by decide +kernel
theorem dX9_step_17 : decode cX9_step 17 = .ok (.iload_n 3, 1) := by decide +kernel
theorem dX9_step_18 : decode cX9_step 18 = .ok (.i2l, 1) := by decide +kernel
theorem dX9_step_19 : decode cX9_step 19 = .ok (.lconst 0, 1) := by decide +kernel
theorem dX9_step_2 : decode cX9_step 2 = .ok (.getfield 47, 3) := by decide +kernel
theorem dX9_step_20 : decode cX9_step 20 = .ok (.ldc2_w 244, 3) := by decide +kernel
theorem dX9_step_23 : decode cX9_step 23 = .ok (.invokestatic 63, 3) := by decide +kernel
theorem dX9_step_26 : decode cX9_step 26 = .ok (.invokestatic 67, 3) := by decide +kernel
theorem dX9_step_29 : decode cX9_step 29 = .ok (.aload_n 0, 1) := by decide +kernel
theorem dX9_step_30 : decode cX9_step 30 = .ok (.getfield 47, 3) := by decide +kernel
theorem dX9_step_33 : decode cX9_step 33 = .ok (.getfield 246, 3) := by decide +kernel
theorem dX9_step_36 : decode cX9_step 36 = .ok (.bipush 8, 2) := by decide +kernel
theorem dX9_step_38 : decode cX9_step 38 = .ok (.if_icmp .ge 7, 3) := by decide +kernel
theorem dX9_step_41 : decode cX9_step 41 = .ok (.iconst 1, 1) := by decide +kernel
theorem dX9_step_42 : decode cX9_step 42 = .ok (.goto 4, 3) := by decide +kernel
theorem dX9_step_45 : decode cX9_step 45 = .ok (.iconst 0, 1) := by decide +kernel
theorem dX9_step_46 : decode cX9_step 46 = .ok (.invokestatic 129, 3) := by decide +kernel
theorem dX9_step_49 : decode cX9_step 49 = .ok (.aload_n 0, 1) := by decide +kernel
theorem dX9_step_5 : decode cX9_step 5 = .ok (.invokevirtual 241, 3) := by decide +kernel
theorem dX9_step_50 : decode cX9_step 50 = .ok (.getfield 47, 3) := by decide +kernel
theorem dX9_step_53 : decode cX9_step 53 = .ok (.lload_n 1, 1) := by decide +kernel
theorem dX9_step_54 : decode cX9_step 54 = .ok (.iload_n 3, 1) := by decide +kernel
theorem dX9_step_55 : decode cX9_step 55 = .ok (.invokevirtual 249, 3) := by decide +kernel
theorem dX9_step_58 : decode cX9_step 58 = .ok (.ireturn, 1) := by decide +kernel
theorem dX9_step_8 : decode cX9_step 8 = .ok (.ldc2_w 91, 3) := by decide +kernel
theorem dX9_weigh_0 : decode cX9_weigh 0 = .ok (.iload_n 1, 1) := by decide +kernel
theorem dX9_weigh_1 : decode cX9_weigh 1 = .ok (.i2l, 1) := by decide +kernel
theorem dX9_weigh_12 : decode cX9_weigh 12 = .ok (.aload_n 0, 1) := by decide +kernel
theorem dX9_weigh_13 : decode cX9_weigh 13 = .ok (.getfield 40, 3) := by decide +kernel
theorem dX9_weigh_16 : decode cX9_weigh 16 = .ok (.getfield 228, 3) := by decide +kernel
theorem dX9_weigh_19 : decode cX9_weigh 19 = .ok (.bipush 12, 2) := by decide +kernel
theorem dX9_weigh_2 : decode cX9_weigh 2 = .ok (.lconst 0, 1) := by decide +kernel
theorem dX9_weigh_21 : decode cX9_weigh 21 = .ok (.if_icmp .ge 7, 3) := by decide +kernel
theorem dX9_weigh_24 : decode cX9_weigh 24 = .ok (.iconst 1, 1) := by decide +kernel
theorem dX9_weigh_25 : decode cX9_weigh 25 = .ok (.goto 4, 3) := by decide +kernel
theorem dX9_weigh_28 : decode cX9_weigh 28 = .ok (.iconst 0, 1) := by decide +kernel
theorem dX9_weigh_29 : decode cX9_weigh 29 = .ok (.invokestatic 129, 3) := by decide +kernel
theorem dX9_weigh_3 : decode cX9_weigh 3 = .ok (.ldc2_w 105, 3) := by decide +kernel
theorem dX9_weigh_32 : decode cX9_weigh 32 = .ok (.aload_n 0, 1) := by decide +kernel
theorem dX9_weigh_33 : decode cX9_weigh 33 = .ok (.getfield 40, 3) := by decide +kernel
theorem dX9_weigh_36 : decode cX9_weigh 36 = .ok (.iload_n 1, 1) := by decide +kernel
theorem dX9_weigh_37 : decode cX9_weigh 37 = .ok (.invokevirtual 231, 3) := by decide +kernel
theorem dX9_weigh_40 : decode cX9_weigh 40 = .ok (.ireturn, 1) := by decide +kernel
theorem dX9_weigh_6 : decode cX9_weigh 6 = .ok (.invokestatic 63, 3) := by decide +kernel
theorem dX9_weigh_9 : decode cX9_weigh 9 = .ok (.invokestatic 67, 3) := by decide +kernel
set_option maxRecDepth 20000 in
theorem ggX9_deathWorth_X2_worthOfDeath : GoodIn wsX9_deathWorth wsX2_worthOfDeath := goodIn_ca (goodIn_r _ [31, 32, 33, 34, 35, 36, 37, 38, 30, 39, 40, 41, 42, 43, 44, 45, 46, 47, 48, 49, 50, 51, 52, 53, 54, 55, 56, 57, 58, 59, 60, 61, 62, 63, 64, 65, 66, 67, 68, 69, 70, 71, 72, 73, 74, 75, 76, 77, 78, 79, 80, 81, 82, 83, 84, 85, 86, 87, 88, 89, 90, 91, 92, 93, 94, 95, 96, 97, 98, 99, 100, 101, 102, 103, 104, 105, 106, 107, 108, 109, 110, 111, 112, 113, 114, 115, 116, 117, 118, 119, 120, 121, 122, 123, 124, 125, 126, 127, 128, 129, 130, 131, 132, 133, 134, 135, 136, 137, 138, 139, 140, 141, 142, 143, 144, 145, 146, 147, 148, 149, 150, 151, 152, 153, 154, 155, 156, 157, 158, 159, 160, 161, 162, 163, 164, 165, 6, 166, 167, 168, 169, 170, 171, 172, 181, 182, 183, 184, 185, 186, 187, 188, 189, 190, 191, 192, 193, 194] (by decide +kernel) (by decide +kernel)) (goodIn_sub (fun _ h => List.mem_cons_of_mem _ (List.mem_append_right _ h)) (by decide +kernel))
set_option maxRecDepth 20000 in
theorem gX9_deathWorth_X2_worthOfDeath : GoodIn wsX9_deathWorth (wsV RX9 218 RX2 yX2_worthOfDeath wsX2_worthOfDeath) := goodIn_app (goodIn_of _ (by decide +kernel)) ggX9_deathWorth_X2_worthOfDeath
set_option maxRecDepth 20000 in
theorem ggX9_deathWorth_X9_demandInsured : GoodIn wsX9_deathWorth wsX9_demandInsured := goodIn_ca (goodIn_ca (goodIn_r _ [7, 8, 1, 9, 10, 11, 6, 12, 13, 14, 15, 16, 17, 18, 19, 20, 21, 22, 23, 24, 25, 26, 173, 174, 175, 176, 177, 178, 179, 180, 181, 182, 183, 184] (by decide +kernel) (by decide +kernel)) (goodIn_sub (fun _ h => List.mem_cons_of_mem _ (List.mem_append_left _ (List.mem_append_left _ (List.mem_append_right _ h)))) (by decide +kernel))) (goodIn_sub (fun _ h => List.mem_cons_of_mem _ (List.mem_append_left _ (List.mem_append_right _ h))) (by decide +kernel))
set_option maxRecDepth 20000 in
theorem gX9_deathWorth_X9_demandInsured : GoodIn wsX9_deathWorth (wsV RX9 210 RX9 yX9_demandInsured wsX9_demandInsured) := goodIn_app (goodIn_of _ (by decide +kernel)) ggX9_deathWorth_X9_demandInsured
set_option maxRecDepth 20000 in
theorem ggX9_demandInsured_X9_demand : GoodIn wsX9_demandInsured wsX9_demand := goodIn_ca (goodIn_r _ [10, 11, 12] (by decide +kernel) (by decide +kernel)) (goodIn_sub (fun _ h => List.mem_cons_of_mem _ (List.mem_append_left _ (List.mem_append_right _ h))) (by decide +kernel))
set_option maxRecDepth 20000 in
theorem gX9_demandInsured_X9_demand : GoodIn wsX9_demandInsured (va_wsS RX9 67 yX9_demand wsX9_demand) := goodIn_app (goodIn_of _ (by decide +kernel)) ggX9_demandInsured_X9_demand
set_option maxRecDepth 20000 in
theorem ggX9_demandInsured_X9_demandElement : GoodIn wsX9_demandInsured wsX9_demandElement := goodIn_ca (goodIn_r _ [19, 20, 21] (by decide +kernel) (by decide +kernel)) (goodIn_sub (fun _ h => List.mem_cons_of_mem _ (List.mem_append_right _ h)) (by decide +kernel))
set_option maxRecDepth 20000 in
theorem gX9_demandInsured_X9_demandElement : GoodIn wsX9_demandInsured (va_wsS RX9 179 yX9_demandElement wsX9_demandElement) := goodIn_app (goodIn_of _ (by decide +kernel)) ggX9_demandInsured_X9_demandElement
set_option maxRecDepth 20000 in
theorem ggX9_demandInsured_X9_demandRate : GoodIn wsX9_demandInsured wsX9_demandRate := goodIn_ca (goodIn_r _ [15, 16, 4, 5, 6, 7, 8, 9, 10, 11, 12] (by decide +kernel) (by decide +kernel)) (goodIn_sub (fun _ h => List.mem_cons_of_mem _ (List.mem_append_left _ (List.mem_append_right _ h))) (by decide +kernel))
set_option maxRecDepth 20000 in
theorem gX9_demandInsured_X9_demandRate : GoodIn wsX9_demandInsured (va_wsS RX9 114 yX9_demandRate wsX9_demandRate) := goodIn_app (goodIn_of _ (by decide +kernel)) ggX9_demandInsured_X9_demandRate
set_option maxRecDepth 20000 in
theorem ggX9_demandInsured_X9_isWithin : GoodIn wsX9_demandInsured wsX9_isWithin := goodIn_r _ [7] (by decide +kernel) (by decide +kernel)
set_option maxRecDepth 20000 in
theorem gX9_demandInsured_X9_isWithin : GoodIn wsX9_demandInsured (va_wsS RX9 63 yX9_isWithin wsX9_isWithin) := goodIn_app (goodIn_of _ (by decide +kernel)) ggX9_demandInsured_X9_isWithin
set_option maxRecDepth 20000 in
theorem ggX9_lifeWorth_X2_worthOfLife : GoodIn wsX9_lifeWorth wsX2_worthOfLife := goodIn_ca (goodIn_r _ [31, 32, 33, 34, 35, 36, 37, 38, 30, 39, 40, 41, 42, 43, 44, 45, 46, 47, 48, 49, 50, 51, 52, 53, 54, 55, 56, 57, 58, 59, 60, 61, 62, 63, 64, 65, 66, 67, 68, 69, 70, 71, 72, 73, 74, 75, 76, 77, 78, 79, 80, 81, 82, 83, 84, 85, 86, 87, 88, 89, 90, 91, 92, 93, 94, 95, 96, 97, 98, 99, 100, 101, 102, 103, 104, 105, 106, 107, 108, 109, 110, 111, 112, 113, 114, 115, 116, 117, 118, 119, 120, 121, 122, 123, 124, 125, 126, 127, 128, 129, 130, 131, 132, 133, 134, 135, 136, 137, 138, 139, 140, 141, 142, 143, 144, 145, 146, 147, 148, 149, 150, 151, 152, 153, 154, 155, 156, 157, 158, 159, 160, 161, 162, 163, 164, 165, 6, 166, 167, 168, 169, 170, 171, 172, 181, 182, 183, 184, 185, 186, 187, 188, 189, 190, 191, 192, 193, 194] (by decide +kernel) (by decide +kernel)) (goodIn_sub (fun _ h => List.mem_cons_of_mem _ (List.mem_append_right _ h)) (by decide +kernel))
set_option maxRecDepth 20000 in
theorem gX9_lifeWorth_X2_worthOfLife : GoodIn wsX9_lifeWorth (wsV RX9 214 RX2 yX2_worthOfLife wsX2_worthOfLife) := goodIn_app (goodIn_of _ (by decide +kernel)) ggX9_lifeWorth_X2_worthOfLife
set_option maxRecDepth 20000 in
theorem ggX9_lifeWorth_X9_demandInsured : GoodIn wsX9_lifeWorth wsX9_demandInsured := goodIn_ca (goodIn_ca (goodIn_r _ [7, 8, 1, 9, 10, 11, 6, 12, 13, 14, 15, 16, 17, 18, 19, 20, 21, 22, 23, 24, 25, 26, 173, 174, 175, 176, 177, 178, 179, 180, 181, 182, 183, 184] (by decide +kernel) (by decide +kernel)) (goodIn_sub (fun _ h => List.mem_cons_of_mem _ (List.mem_append_left _ (List.mem_append_left _ (List.mem_append_right _ h)))) (by decide +kernel))) (goodIn_sub (fun _ h => List.mem_cons_of_mem _ (List.mem_append_left _ (List.mem_append_right _ h))) (by decide +kernel))
set_option maxRecDepth 20000 in
theorem gX9_lifeWorth_X9_demandInsured : GoodIn wsX9_lifeWorth (wsV RX9 210 RX9 yX9_demandInsured wsX9_demandInsured) := goodIn_app (goodIn_of _ (by decide +kernel)) ggX9_lifeWorth_X9_demandInsured
set_option maxRecDepth 20000 in
theorem ggX9_live_X2_add : GoodIn wsX9_live wsX2_add := goodIn_r _ [28, 10, 8, 37, 38, 39, 40] (by decide +kernel) (by decide +kernel)
set_option maxRecDepth 20000 in
theorem gX9_live_X2_add : GoodIn wsX9_live (wsV RX9 206 RX2 yX2_add wsX2_add) := goodIn_app (goodIn_of _ (by decide +kernel)) ggX9_live_X2_add
set_option maxRecDepth 20000 in
theorem ggX9_live_X2_mostLeftNext : GoodIn wsX9_live wsX2_mostLeftNext := goodIn_r _ [7, 8, 9, 10, 37, 38, 39, 40] (by decide +kernel) (by decide +kernel)
set_option maxRecDepth 20000 in
theorem gX9_live_X2_mostLeftNext : GoodIn wsX9_live (wsV RX9 200 RX2 yX2_mostLeftNext wsX2_mostLeftNext) := goodIn_app (goodIn_of _ (by decide +kernel)) ggX9_live_X2_mostLeftNext
set_option maxRecDepth 20000 in
theorem ggX9_live_X9_demand : GoodIn wsX9_live wsX9_demand := goodIn_ca (goodIn_r _ [17, 18, 19] (by decide +kernel) (by decide +kernel)) (goodIn_sub (fun _ h => List.mem_cons_of_mem _ (List.mem_append_left _ (List.mem_append_right _ h))) (by decide +kernel))
set_option maxRecDepth 20000 in
theorem gX9_live_X9_demand : GoodIn wsX9_live (va_wsS RX9 67 yX9_demand wsX9_demand) := goodIn_app (goodIn_of _ (by decide +kernel)) ggX9_live_X9_demand
set_option maxRecDepth 20000 in
theorem ggX9_live_X9_demandState : GoodIn wsX9_live wsX9_demandState := goodIn_ca (goodIn_r _ [22, 23, 24] (by decide +kernel) (by decide +kernel)) (goodIn_sub (fun _ h => List.mem_cons_of_mem _ (List.mem_append_right _ h)) (by decide +kernel))
set_option maxRecDepth 20000 in
theorem gX9_live_X9_demandState : GoodIn wsX9_live (va_wsS RX9 129 yX9_demandState wsX9_demandState) := goodIn_app (goodIn_of _ (by decide +kernel)) ggX9_live_X9_demandState
set_option maxRecDepth 20000 in
theorem ggX9_live_X9_isWithin : GoodIn wsX9_live wsX9_isWithin := goodIn_r _ [14] (by decide +kernel) (by decide +kernel)
set_option maxRecDepth 20000 in
theorem gX9_live_X9_isWithin : GoodIn wsX9_live (va_wsS RX9 63 yX9_isWithin wsX9_isWithin) := goodIn_app (goodIn_of _ (by decide +kernel)) ggX9_live_X9_isWithin
set_option maxRecDepth 20000 in
theorem ggX9_part_X6_allWeights : GoodIn wsX9_part wsX6_allWeights := goodIn_r _ [22, 23, 24, 38, 39] (by decide +kernel) (by decide +kernel)
set_option maxRecDepth 20000 in
theorem gX9_part_X6_allWeights : GoodIn wsX9_part (wsV RX9 233 RX6 yX6_allWeights wsX6_allWeights) := goodIn_app (goodIn_of _ (by decide +kernel)) ggX9_part_X6_allWeights
set_option maxRecDepth 20000 in
theorem ggX9_part_X6_partOf : GoodIn wsX9_part wsX6_partOf := goodIn_r _ [28, 24, 23, 29, 19, 20, 21, 22, 38, 39] (by decide +kernel) (by decide +kernel)
set_option maxRecDepth 20000 in
theorem gX9_part_X6_partOf : GoodIn wsX9_part (wsV RX9 237 RX6 yX6_partOf wsX6_partOf) := goodIn_app (goodIn_of _ (by decide +kernel)) ggX9_part_X6_partOf
set_option maxRecDepth 20000 in
theorem ggX9_part_X9_demand : GoodIn wsX9_part wsX9_demand := goodIn_ca (goodIn_r _ [10, 11, 12] (by decide +kernel) (by decide +kernel)) (goodIn_sub (fun _ h => List.mem_cons_of_mem _ (List.mem_append_left _ (List.mem_append_right _ h))) (by decide +kernel))
set_option maxRecDepth 20000 in
theorem gX9_part_X9_demand : GoodIn wsX9_part (va_wsS RX9 67 yX9_demand wsX9_demand) := goodIn_app (goodIn_of _ (by decide +kernel)) ggX9_part_X9_demand
set_option maxRecDepth 20000 in
theorem ggX9_part_X9_demandElement : GoodIn wsX9_part wsX9_demandElement := goodIn_ca (goodIn_r _ [15, 16, 17] (by decide +kernel) (by decide +kernel)) (goodIn_sub (fun _ h => List.mem_cons_of_mem _ (List.mem_append_right _ h)) (by decide +kernel))
set_option maxRecDepth 20000 in
theorem gX9_part_X9_demandElement : GoodIn wsX9_part (va_wsS RX9 179 yX9_demandElement wsX9_demandElement) := goodIn_app (goodIn_of _ (by decide +kernel)) ggX9_part_X9_demandElement
set_option maxRecDepth 20000 in
theorem ggX9_part_X9_isWithin : GoodIn wsX9_part wsX9_isWithin := goodIn_r _ [7] (by decide +kernel) (by decide +kernel)
set_option maxRecDepth 20000 in
theorem gX9_part_X9_isWithin : GoodIn wsX9_part (va_wsS RX9 63 yX9_isWithin wsX9_isWithin) := goodIn_app (goodIn_of _ (by decide +kernel)) ggX9_part_X9_isWithin
set_option maxRecDepth 20000 in
theorem ggX9_premium_X2_yearlyPremium : GoodIn wsX9_premium wsX2_yearlyPremium := goodIn_ca (goodIn_r _ [31, 32, 33, 34, 35, 36, 37, 38, 30, 39, 40, 41, 42, 43, 44, 45, 46, 47, 48, 49, 50, 51, 52, 53, 54, 55, 56, 57, 58, 59, 60, 61, 62, 63, 64, 65, 66, 67, 68, 69, 70, 71, 72, 73, 74, 75, 76, 77, 78, 79, 80, 81, 82, 83, 84, 85, 86, 87, 88, 89, 90, 91, 92, 93, 94, 95, 96, 97, 98, 99, 100, 101, 102, 103, 104, 105, 106, 107, 108, 109, 110, 111, 112, 113, 114, 115, 116, 117, 118, 119, 120, 121, 122, 123, 124, 125, 126, 127, 128, 129, 130, 131, 132, 133, 134, 135, 136, 137, 138, 139, 140, 141, 142, 143, 144, 145, 146, 147, 148, 149, 150, 151, 152, 153, 154, 155, 156, 157, 158, 159, 160, 161, 6, 162, 163, 164, 165, 166, 167, 168, 177, 178, 179, 180, 181, 182, 183, 184, 185, 186, 187, 188, 189, 190] (by decide +kernel) (by decide +kernel)) (goodIn_sub (fun _ h => List.mem_cons_of_mem _ (List.mem_append_right _ h)) (by decide +kernel))
set_option maxRecDepth 20000 in
theorem gX9_premium_X2_yearlyPremium : GoodIn wsX9_premium (wsV RX9 221 RX2 yX2_yearlyPremium wsX2_yearlyPremium) := goodIn_app (goodIn_of _ (by decide +kernel)) ggX9_premium_X2_yearlyPremium
set_option maxRecDepth 20000 in
theorem ggX9_premium_X9_demandInsured : GoodIn wsX9_premium wsX9_demandInsured := goodIn_ca (goodIn_ca (goodIn_r _ [7, 8, 1, 9, 10, 11, 6, 12, 13, 14, 15, 16, 17, 18, 19, 20, 21, 22, 23, 24, 25, 26, 169, 170, 171, 172, 173, 174, 175, 176, 177, 178, 179, 180] (by decide +kernel) (by decide +kernel)) (goodIn_sub (fun _ h => List.mem_cons_of_mem _ (List.mem_append_left _ (List.mem_append_left _ (List.mem_append_right _ h)))) (by decide +kernel))) (goodIn_sub (fun _ h => List.mem_cons_of_mem _ (List.mem_append_left _ (List.mem_append_right _ h))) (by decide +kernel))
set_option maxRecDepth 20000 in
theorem gX9_premium_X9_demandInsured : GoodIn wsX9_premium (wsV RX9 210 RX9 yX9_demandInsured wsX9_demandInsured) := goodIn_app (goodIn_of _ (by decide +kernel)) ggX9_premium_X9_demandInsured
set_option maxRecDepth 20000 in
theorem ggX9_step_X7_add : GoodIn wsX9_step wsX7_add := goodIn_r _ [29, 11, 10, 30, 39, 40, 41] (by decide +kernel) (by decide +kernel)
set_option maxRecDepth 20000 in
theorem gX9_step_X7_add : GoodIn wsX9_step (wsV RX9 249 RX7 yX7_add wsX7_add) := goodIn_app (goodIn_of _ (by decide +kernel)) ggX9_step_X7_add
set_option maxRecDepth 20000 in
theorem ggX9_step_X7_leastNextFrom : GoodIn wsX9_step wsX7_leastNextFrom := goodIn_r _ [9, 10, 11, 39, 40, 41] (by decide +kernel) (by decide +kernel)
set_option maxRecDepth 20000 in
theorem gX9_step_X7_leastNextFrom : GoodIn wsX9_step (wsV RX9 241 RX7 yX7_leastNextFrom wsX7_leastNextFrom) := goodIn_app (goodIn_of _ (by decide +kernel)) ggX9_step_X7_leastNextFrom
set_option maxRecDepth 20000 in
theorem ggX9_step_X9_demand : GoodIn wsX9_step wsX9_demand := goodIn_ca (goodIn_r _ [18, 19, 20] (by decide +kernel) (by decide +kernel)) (goodIn_sub (fun _ h => List.mem_cons_of_mem _ (List.mem_append_left _ (List.mem_append_right _ h))) (by decide +kernel))
set_option maxRecDepth 20000 in
theorem gX9_step_X9_demand : GoodIn wsX9_step (va_wsS RX9 67 yX9_demand wsX9_demand) := goodIn_app (goodIn_of _ (by decide +kernel)) ggX9_step_X9_demand
set_option maxRecDepth 20000 in
theorem ggX9_step_X9_demandState : GoodIn wsX9_step wsX9_demandState := goodIn_ca (goodIn_r _ [23, 24, 25] (by decide +kernel) (by decide +kernel)) (goodIn_sub (fun _ h => List.mem_cons_of_mem _ (List.mem_append_right _ h)) (by decide +kernel))
set_option maxRecDepth 20000 in
theorem gX9_step_X9_demandState : GoodIn wsX9_step (va_wsS RX9 129 yX9_demandState wsX9_demandState) := goodIn_app (goodIn_of _ (by decide +kernel)) ggX9_step_X9_demandState
set_option maxRecDepth 20000 in
theorem ggX9_step_X9_isWithin : GoodIn wsX9_step wsX9_isWithin := goodIn_r _ [15] (by decide +kernel) (by decide +kernel)
set_option maxRecDepth 20000 in
theorem gX9_step_X9_isWithin : GoodIn wsX9_step (va_wsS RX9 63 yX9_isWithin wsX9_isWithin) := goodIn_app (goodIn_of _ (by decide +kernel)) ggX9_step_X9_isWithin
set_option maxRecDepth 20000 in
theorem ggX9_weigh_X6_add : GoodIn wsX9_weigh wsX6_add := goodIn_r _ [22, 23, 24, 33, 34] (by decide +kernel) (by decide +kernel)
set_option maxRecDepth 20000 in
theorem gX9_weigh_X6_add : GoodIn wsX9_weigh (wsV RX9 231 RX6 yX6_add wsX6_add) := goodIn_app (goodIn_of _ (by decide +kernel)) ggX9_weigh_X6_add
set_option maxRecDepth 20000 in
theorem ggX9_weigh_X9_demand : GoodIn wsX9_weigh wsX9_demand := goodIn_ca (goodIn_r _ [10, 11, 12] (by decide +kernel) (by decide +kernel)) (goodIn_sub (fun _ h => List.mem_cons_of_mem _ (List.mem_append_left _ (List.mem_append_right _ h))) (by decide +kernel))
set_option maxRecDepth 20000 in
theorem gX9_weigh_X9_demand : GoodIn wsX9_weigh (va_wsS RX9 67 yX9_demand wsX9_demand) := goodIn_app (goodIn_of _ (by decide +kernel)) ggX9_weigh_X9_demand
set_option maxRecDepth 20000 in
theorem ggX9_weigh_X9_demandState : GoodIn wsX9_weigh wsX9_demandState := goodIn_ca (goodIn_r _ [15, 16, 17] (by decide +kernel) (by decide +kernel)) (goodIn_sub (fun _ h => List.mem_cons_of_mem _ (List.mem_append_right _ h)) (by decide +kernel))
set_option maxRecDepth 20000 in
theorem gX9_weigh_X9_demandState : GoodIn wsX9_weigh (va_wsS RX9 129 yX9_demandState wsX9_demandState) := goodIn_app (goodIn_of _ (by decide +kernel)) ggX9_weigh_X9_demandState
set_option maxRecDepth 20000 in
theorem ggX9_weigh_X9_isWithin : GoodIn wsX9_weigh wsX9_isWithin := goodIn_r _ [7] (by decide +kernel) (by decide +kernel)
set_option maxRecDepth 20000 in
theorem gX9_weigh_X9_isWithin : GoodIn wsX9_weigh (va_wsS RX9 63 yX9_isWithin wsX9_isWithin) := goodIn_app (goodIn_of _ (by decide +kernel)) ggX9_weigh_X9_isWithin
