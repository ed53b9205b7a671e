-- printed rows that the walks use
theorem dX9_accrued_0 : decode cX9_accrued 0 = .ok (.lload_n 1, 1) := by decide +kernel
theorem dX9_accrued_1 : decode cX9_accrued 1 = .ok (.lconst 0, 1) := by decide +kernel
theorem dX9_accrued_11 : decode cX9_accrued 11 = .ok (.iload 4, 2) := by decide +kernel
theorem dX9_accrued_13 : decode cX9_accrued 13 = .ok (.i2l, 1) := by decide +kernel
theorem dX9_accrued_14 : decode cX9_accrued 14 = .ok (.lconst 1, 1) := by decide +kernel
theorem dX9_accrued_15 : decode cX9_accrued 15 = .ok (.ldc2_w 198, 3) := by decide +kernel
theorem dX9_accrued_18 : decode cX9_accrued 18 = .ok (.invokestatic 63, 3) := by decide +kernel
theorem dX9_accrued_2 : decode cX9_accrued 2 = .ok (.ldc2_w 91, 3) := by decide +kernel
theorem dX9_accrued_21 : decode cX9_accrued 21 = .ok (.invokestatic 67, 3) := by decide +kernel
theorem dX9_accrued_24 : decode cX9_accrued 24 = .ok (.iload_n 3, 1) := by decide +kernel
theorem dX9_accrued_25 : decode cX9_accrued 25 = .ok (.i2l, 1) := by decide +kernel
theorem dX9_accrued_26 : decode cX9_accrued 26 = .ok (.lconst 0, 1) := by decide +kernel
theorem dX9_accrued_27 : decode cX9_accrued 27 = .ok (.iload 4, 2) := by decide +kernel
theorem dX9_accrued_29 : decode cX9_accrued 29 = .ok (.i2l, 1) := by decide +kernel
theorem dX9_accrued_30 : decode cX9_accrued 30 = .ok (.invokestatic 63, 3) := by decide +kernel
theorem dX9_accrued_33 : decode cX9_accrued 33 = .ok (.invokestatic 67, 3) := by decide +kernel
theorem dX9_accrued_36 : decode cX9_accrued 36 = .ok (.aload_n 0, 1) := by decide +kernel
theorem dX9_accrued_37 : decode cX9_accrued 37 = .ok (.getfield 10, 3) := by decide +kernel
theorem dX9_accrued_40 : decode cX9_accrued 40 = .ok (.lload_n 1, 1) := by decide +kernel
theorem dX9_accrued_41 : decode cX9_accrued 41 = .ok (.iload_n 3, 1) := by decide +kernel
theorem dX9_accrued_42 : decode cX9_accrued 42 = .ok (.i2l, 1) := by decide +kernel
theorem dX9_accrued_43 : decode cX9_accrued 43 = .ok (.lmul, 1) := by decide +kernel
theorem dX9_accrued_44 : decode cX9_accrued 44 = .ok (.iload 4, 2) := by decide +kernel
theorem dX9_accrued_46 : decode cX9_accrued 46 = .ok (.i2l, 1) := by decide +kernel
theorem dX9_accrued_47 : decode cX9_accrued 47 = .ok (.invokevirtual 83, 3) := by decide +kernel
theorem dX9_accrued_5 : decode cX9_accrued 5 = .ok (.invokestatic 63, 3) := by decide +kernel
theorem dX9_accrued_50 : decode cX9_accrued 50 = .ok (.lreturn, 1) := by decide +kernel
theorem dX9_accrued_8 : decode cX9_accrued 8 = .ok (.invokestatic 67, 3) := by decide +kernel
theorem dX9_amount_0 : decode cX9_amount 0 = .ok (.iload_n 1, 1) := by decide +kernel
theorem dX9_amount_1 : decode cX9_amount 1 = .ok (.i2l, 1) := by decide +kernel
theorem dX9_amount_12 : decode cX9_amount 12 = .ok (.aload_n 0, 1) := by decide +kernel
theorem dX9_amount_13 : decode cX9_amount 13 = .ok (.getfield 19, 3) := by decide +kernel
theorem dX9_amount_16 : decode cX9_amount 16 = .ok (.iload_n 1, 1) := by decide +kernel
theorem dX9_amount_17 : decode cX9_amount 17 = .ok (.invokevirtual 97, 3) := by decide +kernel
theorem dX9_amount_2 : decode cX9_amount 2 = .ok (.lconst 0, 1) := by decide +kernel
theorem dX9_amount_20 : decode cX9_amount 20 = .ok (.lreturn, 1) := by decide +kernel
theorem dX9_amount_3 : decode cX9_amount 3 = .ok (.ldc2_w 87, 3) := by decide +kernel
theorem dX9_amount_6 : decode cX9_amount 6 = .ok (.invokestatic 63, 3) := by decide +kernel
theorem dX9_amount_9 : decode cX9_amount 9 = .ok (.invokestatic 67, 3) := by decide +kernel
theorem dX9_bondYield_0 : decode cX9_bondYield 0 = .ok (.lload_n 1, 1) := by decide +kernel
theorem dX9_bondYield_1 : decode cX9_bondYield 1 = .ok (.lload_n 3, 1) := by decide +kernel
theorem dX9_bondYield_10 : decode cX9_bondYield 10 = .ok (.ldc2_w 77, 3) := by decide +kernel
theorem dX9_bondYield_13 : decode cX9_bondYield 13 = .ok (.invokestatic 63, 3) := by decide +kernel
theorem dX9_bondYield_16 : decode cX9_bondYield 16 = .ok (.invokestatic 67, 3) := by decide +kernel
theorem dX9_bondYield_19 : decode cX9_bondYield 19 = .ok (.aload_n 0, 1) := by decide +kernel
theorem dX9_bondYield_2 : decode cX9_bondYield 2 = .ok (.iload 5, 2) := by decide +kernel
theorem dX9_bondYield_20 : decode cX9_bondYield 20 = .ok (.getfield 26, 3) := by decide +kernel
theorem dX9_bondYield_23 : decode cX9_bondYield 23 = .ok (.lload_n 1, 1) := by decide +kernel
theorem dX9_bondYield_24 : decode cX9_bondYield 24 = .ok (.lload_n 3, 1) := by decide +kernel
theorem dX9_bondYield_25 : decode cX9_bondYield 25 = .ok (.iload 5, 2) := by decide +kernel
theorem dX9_bondYield_27 : decode cX9_bondYield 27 = .ok (.lload 6, 2) := by decide +kernel
theorem dX9_bondYield_29 : decode cX9_bondYield 29 = .ok (.invokevirtual 195, 3) := by decide +kernel
theorem dX9_bondYield_32 : decode cX9_bondYield 32 = .ok (.ireturn, 1) := by decide +kernel
theorem dX9_bondYield_4 : decode cX9_bondYield 4 = .ok (.invokestatic 187, 3) := by decide +kernel
theorem dX9_bondYield_7 : decode cX9_bondYield 7 = .ok (.lload 6, 2) := by decide +kernel
theorem dX9_bondYield_9 : decode cX9_bondYield 9 = .ok (.lconst 0, 1) := by decide +kernel
theorem dX9_changes_0 : decode cX9_changes 0 = .ok (.aload_n 0, 1) := by decide +kernel
theorem dX9_changes_1 : decode cX9_changes 1 = .ok (.getfield 19, 3) := by decide +kernel
theorem dX9_changes_4 : decode cX9_changes 4 = .ok (.invokevirtual 126, 3) := by decide +kernel
theorem dX9_changes_7 : decode cX9_changes 7 = .ok (.ireturn, 1) := by decide +kernel
theorem dX9_clearLives_0 : decode cX9_clearLives 0 = .ok (.aload_n 0, 1) := by decide +kernel
theorem dX9_clearLives_1 : decode cX9_clearLives 1 = .ok (.getfield 33, 3) := by decide +kernel
theorem dX9_clearLives_4 : decode cX9_clearLives 4 = .ok (.invokevirtual 208, 3) := by decide +kernel
theorem dX9_clearLives_7 : decode cX9_clearLives 7 = .ok (.ireturn, 1) := by decide +kernel
theorem dX9_clearRow_0 : decode cX9_clearRow 0 = .ok (.aload_n 0, 1) := by decide +kernel
theorem dX9_clearRow_1 : decode cX9_clearRow 1 = .ok (.getfield 19, 3) := by decide +kernel
theorem dX9_clearRow_12 : decode cX9_clearRow 12 = .ok (.invokevirtual 111, 3) := by decide +kernel
theorem dX9_clearRow_15 : decode cX9_clearRow 15 = .ok (.iload_n 1, 1) := by decide +kernel
theorem dX9_clearRow_16 : decode cX9_clearRow 16 = .ok (.ireturn, 1) := by decide +kernel
theorem dX9_clearRow_4 : decode cX9_clearRow 4 = .ok (.invokevirtual 107, 3) := by decide +kernel
theorem dX9_clearRow_7 : decode cX9_clearRow 7 = .ok (.istore_n 1, 1) := by decide +kernel
theorem dX9_clearRow_8 : decode cX9_clearRow 8 = .ok (.aload_n 0, 1) := by decide +kernel
theorem dX9_clearRow_9 : decode cX9_clearRow 9 = .ok (.getfield 19, 3) := by decide +kernel
theorem dX9_clearSteps_0 : decode cX9_clearSteps 0 = .ok (.aload_n 0, 1) := by decide +kernel
theorem dX9_clearSteps_1 : decode cX9_clearSteps 1 = .ok (.getfield 47, 3) := by decide +kernel
theorem dX9_clearSteps_4 : decode cX9_clearSteps 4 = .ok (.invokevirtual 252, 3) := by decide +kernel
theorem dX9_clearSteps_7 : decode cX9_clearSteps 7 = .ok (.ireturn, 1) := by decide +kernel
theorem dX9_clearWeights_0 : decode cX9_clearWeights 0 = .ok (.aload_n 0, 1) := by decide +kernel
theorem dX9_clearWeights_1 : decode cX9_clearWeights 1 = .ok (.getfield 40, 3) := by decide +kernel
theorem dX9_clearWeights_4 : decode cX9_clearWeights 4 = .ok (.invokevirtual 232, 3) := by decide +kernel
theorem dX9_clearWeights_7 : decode cX9_clearWeights 7 = .ok (.ireturn, 1) := by decide +kernel
theorem dX9_demandBond_0 : decode cX9_demandBond 0 = .ok (.lload_n 0, 1) := by decide +kernel
theorem dX9_demandBond_1 : decode cX9_demandBond 1 = .ok (.lconst 0, 1) := by decide +kernel
theorem dX9_demandBond_11 : decode cX9_demandBond 11 = .ok (.lload_n 2, 1) := by decide +kernel
theorem dX9_demandBond_12 : decode cX9_demandBond 12 = .ok (.lconst 0, 1) := by decide +kernel
theorem dX9_demandBond_13 : decode cX9_demandBond 13 = .ok (.ldc2_w 91, 3) := by decide +kernel
theorem dX9_demandBond_16 : decode cX9_demandBond 16 = .ok (.invokestatic 63, 3) := by decide +kernel
theorem dX9_demandBond_19 : decode cX9_demandBond 19 = .ok (.invokestatic 67, 3) := by decide +kernel
theorem dX9_demandBond_2 : decode cX9_demandBond 2 = .ok (.ldc2_w 91, 3) := by decide +kernel
theorem dX9_demandBond_22 : decode cX9_demandBond 22 = .ok (.iload 4, 2) := by decide +kernel
theorem dX9_demandBond_24 : decode cX9_demandBond 24 = .ok (.i2l, 1) := by decide +kernel
theorem dX9_demandBond_25 : decode cX9_demandBond 25 = .ok (.lconst 1, 1) := by decide +kernel
theorem dX9_demandBond_26 : decode cX9_demandBond 26 = .ok (.ldc2_w 87, 3) := by decide +kernel
theorem dX9_demandBond_29 : decode cX9_demandBond 29 = .ok (.invokestatic 63, 3) := by decide +kernel
theorem dX9_demandBond_32 : decode cX9_demandBond 32 = .ok (.invokestatic 67, 3) := by decide +kernel
theorem dX9_demandBond_35 : decode cX9_demandBond 35 = .ok (.return_, 1) := by decide +kernel
theorem dX9_demandBond_5 : decode cX9_demandBond 5 = .ok (.invokestatic 63, 3) := by decide +kernel
theorem dX9_demandBond_8 : decode cX9_demandBond 8 = .ok (.invokestatic 67, 3) := by decide +kernel
theorem dX9_demandRate_0 : decode cX9_demandRate 0 = .ok (.iload_n 0, 1) := by decide +kernel
theorem dX9_demandRate_1 : decode cX9_demandRate 1 = .ok (.i2l, 1) := by decide +kernel
theorem dX9_demandRate_12 : decode cX9_demandRate 12 = .ok (.return_, 1) := by decide +kernel
theorem dX9_demandRate_2 : decode cX9_demandRate 2 = .ok (.lconst 0, 1) := by decide +kernel
theorem dX9_demandRate_3 : decode cX9_demandRate 3 = .ok (.ldc2_w 279, 3) := by decide +kernel
theorem dX9_demandRate_6 : decode cX9_demandRate 6 = .ok (.invokestatic 63, 3) := by decide +kernel
theorem dX9_demandRate_9 : decode cX9_demandRate 9 = .ok (.invokestatic 67, 3) := by decide +kernel
theorem dX9_mode_0 : decode cX9_mode 0 = .ok (.aload_n 0, 1) := by decide +kernel
theorem dX9_mode_1 : decode cX9_mode 1 = .ok (.getfield 10, 3) := by decide +kernel
theorem dX9_mode_4 : decode cX9_mode 4 = .ok (.getfield 71, 3) := by decide +kernel
theorem dX9_mode_7 : decode cX9_mode 7 = .ok (.ireturn, 1) := by decide +kernel
theorem dX9_payMany_0 : decode cX9_payMany 0 = .ok (.iload_n 1, 1) := by decide +kernel
theorem dX9_payMany_1 : decode cX9_payMany 1 = .ok (.i2l, 1) := by decide +kernel
theorem dX9_payMany_12 : decode cX9_payMany 12 = .ok (.iload_n 2, 1) := by decide +kernel
theorem dX9_payMany_13 : decode cX9_payMany 13 = .ok (.i2l, 1) := by decide +kernel
theorem dX9_payMany_14 : decode cX9_payMany 14 = .ok (.lconst 1, 1) := by decide +kernel
theorem dX9_payMany_15 : decode cX9_payMany 15 = .ok (.ldc2_w 101, 3) := by decide +kernel
theorem dX9_payMany_18 : decode cX9_payMany 18 = .ok (.invokestatic 63, 3) := by decide +kernel
theorem dX9_payMany_2 : decode cX9_payMany 2 = .ok (.lconst 0, 1) := by decide +kernel
theorem dX9_payMany_21 : decode cX9_payMany 21 = .ok (.invokestatic 67, 3) := by decide +kernel
theorem dX9_payMany_24 : decode cX9_payMany 24 = .ok (.lload_n 3, 1) := by decide +kernel
theorem dX9_payMany_25 : decode cX9_payMany 25 = .ok (.ldc2_w 89, 3) := by decide +kernel
theorem dX9_payMany_28 : decode cX9_payMany 28 = .ok (.ldc2_w 91, 3) := by decide +kernel
theorem dX9_payMany_3 : decode cX9_payMany 3 = .ok (.ldc2_w 87, 3) := by decide +kernel
theorem dX9_payMany_31 : decode cX9_payMany 31 = .ok (.invokestatic 63, 3) := by decide +kernel
theorem dX9_payMany_34 : decode cX9_payMany 34 = .ok (.invokestatic 67, 3) := by decide +kernel
theorem dX9_payMany_37 : decode cX9_payMany 37 = .ok (.lload 5, 2) := by decide +kernel
theorem dX9_payMany_39 : decode cX9_payMany 39 = .ok (.ldc2_w 103, 3) := by decide +kernel
theorem dX9_payMany_42 : decode cX9_payMany 42 = .ok (.ldc2_w 105, 3) := by decide +kernel
theorem dX9_payMany_45 : decode cX9_payMany 45 = .ok (.invokestatic 63, 3) := by decide +kernel
theorem dX9_payMany_48 : decode cX9_payMany 48 = .ok (.invokestatic 67, 3) := by decide +kernel
theorem dX9_payMany_51 : decode cX9_payMany 51 = .ok (.iload_n 1, 1) := by decide +kernel
theorem dX9_payMany_52 : decode cX9_payMany 52 = .ok (.iload_n 2, 1) := by decide +kernel
theorem dX9_payMany_53 : decode cX9_payMany 53 = .ok (.iadd, 1) := by decide +kernel
theorem dX9_payMany_54 : decode cX9_payMany 54 = .ok (.iconst 1, 1) := by decide +kernel
theorem dX9_payMany_55 : decode cX9_payMany 55 = .ok (.isub, 1) := by decide +kernel
theorem dX9_payMany_56 : decode cX9_payMany 56 = .ok (.bipush 40, 2) := by decide +kernel
theorem dX9_payMany_58 : decode cX9_payMany 58 = .ok (.if_icmp .gt 7, 3) := by decide +kernel
theorem dX9_payMany_6 : decode cX9_payMany 6 = .ok (.invokestatic 63, 3) := by decide +kernel
theorem dX9_payMany_61 : decode cX9_payMany 61 = .ok (.iconst 1, 1) := by decide +kernel
theorem dX9_payMany_62 : decode cX9_payMany 62 = .ok (.goto 4, 3) := by decide +kernel
theorem dX9_payMany_65 : decode cX9_payMany 65 = .ok (.iconst 0, 1) := by decide +kernel
theorem dX9_payMany_66 : decode cX9_payMany 66 = .ok (.invokestatic 67, 3) := by decide +kernel
theorem dX9_payMany_69 : decode cX9_payMany 69 = .ok (.aload_n 0, 1) := by decide +kernel
theorem dX9_payMany_70 : decode cX9_payMany 70 = .ok (.getfield 19, 3) := by decide +kernel
theorem dX9_payMany_73 : decode cX9_payMany 73 = .ok (.iload_n 1, 1) := by decide +kernel
theorem dX9_payMany_74 : decode cX9_payMany 74 = .ok (.iload_n 2, 1) := by decide +kernel
theorem dX9_payMany_75 : decode cX9_payMany 75 = .ok (.lload_n 3, 1) := by decide +kernel
theorem dX9_payMany_76 : decode cX9_payMany 76 = .ok (.lload 5, 2) := by decide +kernel
theorem dX9_payMany_78 : decode cX9_payMany 78 = .ok (.invokevirtual 93, 3) := by decide +kernel
theorem dX9_payMany_81 : decode cX9_payMany 81 = .ok (.aload_n 0, 1) := by decide +kernel
theorem dX9_payMany_82 : decode cX9_payMany 82 = .ok (.getfield 19, 3) := by decide +kernel
theorem dX9_payMany_85 : decode cX9_payMany 85 = .ok (.invokevirtual 107, 3) := by decide +kernel
theorem dX9_payMany_88 : decode cX9_payMany 88 = .ok (.ireturn, 1) := by decide +kernel
theorem dX9_payMany_9 : decode cX9_payMany 9 = .ok (.invokestatic 67, 3) := by decide +kernel
theorem dX9_pay_0 : decode cX9_pay 0 = .ok (.iload_n 1, 1) := by decide +kernel
theorem dX9_pay_1 : decode cX9_pay 1 = .ok (.i2l, 1) := by decide +kernel
theorem dX9_pay_12 : decode cX9_pay 12 = .ok (.lload_n 2, 1) := by decide +kernel
theorem dX9_pay_13 : decode cX9_pay 13 = .ok (.ldc2_w 89, 3) := by decide +kernel
theorem dX9_pay_16 : decode cX9_pay 16 = .ok (.ldc2_w 91, 3) := by decide +kernel
theorem dX9_pay_19 : decode cX9_pay 19 = .ok (.invokestatic 63, 3) := by decide +kernel
theorem dX9_pay_2 : decode cX9_pay 2 = .ok (.lconst 0, 1) := by decide +kernel
theorem dX9_pay_22 : decode cX9_pay 22 = .ok (.invokestatic 67, 3) := by decide +kernel
theorem dX9_pay_25 : decode cX9_pay 25 = .ok (.aload_n 0, 1) := by decide +kernel
theorem dX9_pay_26 : decode cX9_pay 26 = .ok (.getfield 19, 3) := by decide +kernel
theorem dX9_pay_29 : decode cX9_pay 29 = .ok (.iload_n 1, 1) := by decide +kernel
theorem dX9_pay_3 : decode cX9_pay 3 = .ok (.ldc2_w 87, 3) := by decide +kernel
theorem dX9_pay_30 : decode cX9_pay 30 = .ok (.iconst 1, 1) := by decide +kernel
theorem dX9_pay_31 : decode cX9_pay 31 = .ok (.lload_n 2, 1) := by decide +kernel
theorem dX9_pay_32 : decode cX9_pay 32 = .ok (.lconst 0, 1) := by decide +kernel
theorem dX9_pay_33 : decode cX9_pay 33 = .ok (.invokevirtual 93, 3) := by decide +kernel
theorem dX9_pay_36 : decode cX9_pay 36 = .ok (.aload_n 0, 1) := by decide +kernel
theorem dX9_pay_37 : decode cX9_pay 37 = .ok (.getfield 19, 3) := by decide +kernel
theorem dX9_pay_40 : decode cX9_pay 40 = .ok (.iload_n 1, 1) := by decide +kernel
theorem dX9_pay_41 : decode cX9_pay 41 = .ok (.invokevirtual 97, 3) := by decide +kernel
theorem dX9_pay_44 : decode cX9_pay 44 = .ok (.lreturn, 1) := by decide +kernel
theorem dX9_pay_6 : decode cX9_pay 6 = .ok (.invokestatic 63, 3) := by decide +kernel
theorem dX9_pay_9 : decode cX9_pay 9 = .ok (.invokestatic 67, 3) := by decide +kernel
theorem dX9_price_0 : decode cX9_price 0 = .ok (.lload_n 1, 1) := by decide +kernel
theorem dX9_price_1 : decode cX9_price 1 = .ok (.lload_n 3, 1) := by decide +kernel
theorem dX9_price_12 : decode cX9_price 12 = .ok (.aload_n 0, 1) := by decide +kernel
theorem dX9_price_13 : decode cX9_price 13 = .ok (.getfield 26, 3) := by decide +kernel
theorem dX9_price_16 : decode cX9_price 16 = .ok (.lload_n 1, 1) := by decide +kernel
theorem dX9_price_17 : decode cX9_price 17 = .ok (.lload_n 3, 1) := by decide +kernel
theorem dX9_price_18 : decode cX9_price 18 = .ok (.iload 5, 2) := by decide +kernel
theorem dX9_price_2 : decode cX9_price 2 = .ok (.iload 5, 2) := by decide +kernel
theorem dX9_price_20 : decode cX9_price 20 = .ok (.iload 6, 2) := by decide +kernel
theorem dX9_price_22 : decode cX9_price 22 = .ok (.aload_n 0, 1) := by decide +kernel
theorem dX9_price_23 : decode cX9_price 23 = .ok (.getfield 10, 3) := by decide +kernel
theorem dX9_price_26 : decode cX9_price 26 = .ok (.invokevirtual 191, 3) := by decide +kernel
theorem dX9_price_29 : decode cX9_price 29 = .ok (.lreturn, 1) := by decide +kernel
theorem dX9_price_4 : decode cX9_price 4 = .ok (.invokestatic 187, 3) := by decide +kernel
theorem dX9_price_7 : decode cX9_price 7 = .ok (.iload 6, 2) := by decide +kernel
theorem dX9_price_9 : decode cX9_price 9 = .ok (.invokestatic 114, 3) := by decide +kernel
theorem dX9_round_0 : decode cX9_round 0 = .ok (.lload_n 1, 1) := by decide +kernel
theorem dX9_round_1 : decode cX9_round 1 = .ok (.ldc2_w 75, 3) := by decide +kernel
theorem dX9_round_10 : decode cX9_round 10 = .ok (.invokestatic 67, 3) := by decide +kernel
theorem dX9_round_13 : decode cX9_round 13 = .ok (.lload_n 3, 1) := by decide +kernel
theorem dX9_round_14 : decode cX9_round 14 = .ok (.lconst 1, 1) := by decide +kernel
theorem dX9_round_15 : decode cX9_round 15 = .ok (.ldc2_w 77, 3) := by decide +kernel
theorem dX9_round_18 : decode cX9_round 18 = .ok (.invokestatic 63, 3) := by decide +kernel
theorem dX9_round_21 : decode cX9_round 21 = .ok (.invokestatic 67, 3) := by decide +kernel
theorem dX9_round_24 : decode cX9_round 24 = .ok (.iload 5, 2) := by decide +kernel
theorem dX9_round_26 : decode cX9_round 26 = .ok (.i2l, 1) := by decide +kernel
theorem dX9_round_27 : decode cX9_round 27 = .ok (.lconst 0, 1) := by decide +kernel
theorem dX9_round_28 : decode cX9_round 28 = .ok (.ldc2_w 79, 3) := by decide +kernel
theorem dX9_round_31 : decode cX9_round 31 = .ok (.invokestatic 63, 3) := by decide +kernel
theorem dX9_round_34 : decode cX9_round 34 = .ok (.invokestatic 67, 3) := by decide +kernel
theorem dX9_round_37 : decode cX9_round 37 = .ok (.lload_n 1, 1) := by decide +kernel
theorem dX9_round_38 : decode cX9_round 38 = .ok (.lstore 6, 2) := by decide +kernel
theorem dX9_round_4 : decode cX9_round 4 = .ok (.ldc2_w 77, 3) := by decide +kernel
theorem dX9_round_40 : decode cX9_round 40 = .ok (.iconst 0, 1) := by decide +kernel
theorem dX9_round_41 : decode cX9_round 41 = .ok (.istore 8, 2) := by decide +kernel
theorem dX9_round_43 : decode cX9_round 43 = .ok (.iload 8, 2) := by decide +kernel
theorem dX9_round_45 : decode cX9_round 45 = .ok (.iload 5, 2) := by decide +kernel
theorem dX9_round_47 : decode cX9_round 47 = .ok (.if_icmp .ge 17, 3) := by decide +kernel
theorem dX9_round_50 : decode cX9_round 50 = .ok (.lload 6, 2) := by decide +kernel
theorem dX9_round_52 : decode cX9_round 52 = .ok (.ldc2_w 81, 3) := by decide +kernel
theorem dX9_round_55 : decode cX9_round 55 = .ok (.lmul, 1) := by decide +kernel
theorem dX9_round_56 : decode cX9_round 56 = .ok (.lstore 6, 2) := by decide +kernel
theorem dX9_round_58 : decode cX9_round 58 = .ok (.iinc 8 1, 3) := by decide +kernel
theorem dX9_round_61 : decode cX9_round 61 = .ok (.goto (-18), 3) := by decide +kernel
theorem dX9_round_64 : decode cX9_round 64 = .ok (.aload_n 0, 1) := by decide +kernel
theorem dX9_round_65 : decode cX9_round 65 = .ok (.getfield 10, 3) := by decide +kernel
theorem dX9_round_68 : decode cX9_round 68 = .ok (.lload 6, 2) := by decide +kernel
theorem dX9_round_7 : decode cX9_round 7 = .ok (.invokestatic 63, 3) := by decide +kernel
theorem dX9_round_70 : decode cX9_round 70 = .ok (.lload_n 3, 1) := by decide +kernel
theorem dX9_round_71 : decode cX9_round 71 = .ok (.invokevirtual 83, 3) := by decide +kernel
theorem dX9_round_74 : decode cX9_round 74 = .ok (.lreturn, 1) := by decide +kernel
theorem dX9_rowYield_0 : decode cX9_rowYield 0 = .ok (.aload_n 0, 1) := by decide +kernel
theorem dX9_rowYield_1 : decode cX9_rowYield 1 = .ok (.getfield 19, 3) := by decide +kernel
theorem dX9_rowYield_11 : decode cX9_rowYield 11 = .ok (.iconst 1, 1) := by decide +kernel
theorem dX9_rowYield_12 : decode cX9_rowYield 12 = .ok (.goto 4, 3) := by decide +kernel
theorem dX9_rowYield_15 : decode cX9_rowYield 15 = .ok (.iconst 0, 1) := by decide +kernel
theorem dX9_rowYield_16 : decode cX9_rowYield 16 = .ok (.invokestatic 129, 3) := by decide +kernel
theorem dX9_rowYield_19 : decode cX9_rowYield 19 = .ok (.aload_n 0, 1) := by decide +kernel
theorem dX9_rowYield_20 : decode cX9_rowYield 20 = .ok (.getfield 19, 3) := by decide +kernel
theorem dX9_rowYield_23 : decode cX9_rowYield 23 = .ok (.invokevirtual 132, 3) := by decide +kernel
theorem dX9_rowYield_26 : decode cX9_rowYield 26 = .ok (.ireturn, 1) := by decide +kernel
theorem dX9_rowYield_4 : decode cX9_rowYield 4 = .ok (.invokevirtual 126, 3) := by decide +kernel
theorem dX9_rowYield_7 : decode cX9_rowYield 7 = .ok (.iconst 1, 1) := by decide +kernel
theorem dX9_rowYield_8 : decode cX9_rowYield 8 = .ok (.if_icmp .ne 7, 3) := by decide +kernel
theorem dX9_setMode_0 : decode cX9_setMode 0 = .ok (.iload_n 1, 1) := by decide +kernel
theorem dX9_setMode_1 : decode cX9_setMode 1 = .ok (.i2l, 1) := by decide +kernel
theorem dX9_setMode_12 : decode cX9_setMode 12 = .ok (.aload_n 0, 1) := by decide +kernel
theorem dX9_setMode_13 : decode cX9_setMode 13 = .ok (.getfield 10, 3) := by decide +kernel
theorem dX9_setMode_16 : decode cX9_setMode 16 = .ok (.getfield 71, 3) := by decide +kernel
theorem dX9_setMode_19 : decode cX9_setMode 19 = .ok (.istore_n 2, 1) := by decide +kernel
theorem dX9_setMode_2 : decode cX9_setMode 2 = .ok (.lconst 0, 1) := by decide +kernel
theorem dX9_setMode_20 : decode cX9_setMode 20 = .ok (.aload_n 0, 1) := by decide +kernel
theorem dX9_setMode_21 : decode cX9_setMode 21 = .ok (.getfield 10, 3) := by decide +kernel
theorem dX9_setMode_24 : decode cX9_setMode 24 = .ok (.iload_n 1, 1) := by decide +kernel
theorem dX9_setMode_25 : decode cX9_setMode 25 = .ok (.putfield 71, 3) := by decide +kernel
theorem dX9_setMode_28 : decode cX9_setMode 28 = .ok (.iload_n 2, 1) := by decide +kernel
theorem dX9_setMode_29 : decode cX9_setMode 29 = .ok (.ireturn, 1) := by decide +kernel
theorem dX9_setMode_3 : decode cX9_setMode 3 = .ok (.ldc2_w 61, 3) := by decide +kernel
theorem dX9_setMode_6 : decode cX9_setMode 6 = .ok (.invokestatic 63, 3) := by decide +kernel
theorem dX9_setMode_9 : decode cX9_setMode 9 = .ok (.invokestatic 67, 3) := by decide +kernel
theorem dX9_signAt_0 : decode cX9_signAt 0 = .ok (.iload_n 1, 1) := by decide +kernel
theorem dX9_signAt_1 : decode cX9_signAt 1 = .ok (.invokestatic 114, 3) := by decide +kernel
theorem dX9_signAt_12 : decode cX9_signAt 12 = .ok (.ireturn, 1) := by decide +kernel
theorem dX9_signAt_4 : decode cX9_signAt 4 = .ok (.aload_n 0, 1) := by decide +kernel
theorem dX9_signAt_5 : decode cX9_signAt 5 = .ok (.getfield 19, 3) := by decide +kernel
theorem dX9_signAt_8 : decode cX9_signAt 8 = .ok (.iload_n 1, 1) := by decide +kernel
theorem dX9_signAt_9 : decode cX9_signAt 9 = .ok (.invokevirtual 122, 3) := by decide +kernel
theorem dX9_tax_0 : decode cX9_tax 0 = .ok (.lload_n 1, 1) := by decide +kernel
theorem dX9_tax_1 : decode cX9_tax 1 = .ok (.lconst 0, 1) := by decide +kernel
theorem dX9_tax_11 : decode cX9_tax 11 = .ok (.aload_n 0, 1) := by decide +kernel
theorem dX9_tax_12 : decode cX9_tax 12 = .ok (.getfield 10, 3) := by decide +kernel
theorem dX9_tax_15 : decode cX9_tax 15 = .ok (.aload_n 0, 1) := by decide +kernel
theorem dX9_tax_16 : decode cX9_tax 16 = .ok (.getfield 47, 3) := by decide +kernel
theorem dX9_tax_19 : decode cX9_tax 19 = .ok (.lload_n 1, 1) := by decide +kernel
theorem dX9_tax_2 : decode cX9_tax 2 = .ok (.ldc2_w 77, 3) := by decide +kernel
theorem dX9_tax_20 : decode cX9_tax 20 = .ok (.invokevirtual 253, 3) := by decide +kernel
theorem dX9_tax_23 : decode cX9_tax 23 = .ok (.ldc2_w 244, 3) := by decide +kernel
theorem dX9_tax_26 : decode cX9_tax 26 = .ok (.invokevirtual 83, 3) := by decide +kernel
theorem dX9_tax_29 : decode cX9_tax 29 = .ok (.lreturn, 1) := by decide +kernel
theorem dX9_tax_5 : decode cX9_tax 5 = .ok (.invokestatic 63, 3) := by decide +kernel
theorem dX9_tax_8 : decode cX9_tax 8 = .ok (.invokestatic 67, 3) := by decide +kernel
theorem dX9_untaxed_0 : decode cX9_untaxed 0 = .ok (.lload_n 1, 1) := by decide +kernel
theorem dX9_untaxed_1 : decode cX9_untaxed 1 = .ok (.lconst 0, 1) := by decide +kernel
theorem dX9_untaxed_11 : decode cX9_untaxed 11 = .ok (.aload_n 0, 1) := by decide +kernel
theorem dX9_untaxed_12 : decode cX9_untaxed 12 = .ok (.getfield 47, 3) := by decide +kernel
theorem dX9_untaxed_15 : decode cX9_untaxed 15 = .ok (.lload_n 1, 1) := by decide +kernel
theorem dX9_untaxed_16 : decode cX9_untaxed 16 = .ok (.invokevirtual 257, 3) := by decide +kernel
theorem dX9_untaxed_19 : decode cX9_untaxed 19 = .ok (.lreturn, 1) := by decide +kernel
theorem dX9_untaxed_2 : decode cX9_untaxed 2 = .ok (.ldc2_w 91, 3) := by decide +kernel
theorem dX9_untaxed_5 : decode cX9_untaxed 5 = .ok (.invokestatic 63, 3) := by decide +kernel
theorem dX9_untaxed_8 : decode cX9_untaxed 8 = .ok (.invokestatic 67, 3) := by decide +kernel
theorem dX9_worth_0 : decode cX9_worth 0 = .ok (.iload_n 1, 1) := by decide +kernel
theorem dX9_worth_1 : decode cX9_worth 1 = .ok (.i2l, 1) := by decide +kernel
theorem dX9_worth_12 : decode cX9_worth 12 = .ok (.iload_n 2, 1) := by decide +kernel
theorem dX9_worth_13 : decode cX9_worth 13 = .ok (.invokestatic 114, 3) := by decide +kernel
theorem dX9_worth_16 : decode cX9_worth 16 = .ok (.aload_n 0, 1) := by decide +kernel
theorem dX9_worth_17 : decode cX9_worth 17 = .ok (.getfield 19, 3) := by decide +kernel
theorem dX9_worth_2 : decode cX9_worth 2 = .ok (.lconst 0, 1) := by decide +kernel
theorem dX9_worth_20 : decode cX9_worth 20 = .ok (.iload_n 1, 1) := by decide +kernel
theorem dX9_worth_21 : decode cX9_worth 21 = .ok (.iload_n 2, 1) := by decide +kernel
theorem dX9_worth_22 : decode cX9_worth 22 = .ok (.aload_n 0, 1) := by decide +kernel
theorem dX9_worth_23 : decode cX9_worth 23 = .ok (.getfield 10, 3) := by decide +kernel
theorem dX9_worth_26 : decode cX9_worth 26 = .ok (.invokevirtual 118, 3) := by decide +kernel
theorem dX9_worth_29 : decode cX9_worth 29 = .ok (.lreturn, 1) := by decide +kernel
theorem dX9_worth_3 : decode cX9_worth 3 = .ok (.ldc2_w 87, 3) := by decide +kernel
theorem dX9_worth_6 : decode cX9_worth 6 = .ok (.invokestatic 63, 3) := by decide +kernel
theorem dX9_worth_9 : decode cX9_worth 9 = .ok (.invokestatic 67, 3) := by decide +kernel
set_option maxRecDepth 20000 in
theorem ggX9_accrued_X4_ratio : GoodIn wsX9_accrued wsX4_ratio := goodIn_ca (goodIn_r _ [17, 18, 19, 20, 21, 22, 23, 16, 24, 25, 26, 27, 28, 29, 30, 6, 31, 32, 33, 34, 35, 36, 37, 38, 47] (by decide +kernel) (by decide +kernel)) (goodIn_sub (fun _ h => List.mem_cons_of_mem _ (List.mem_append_right _ h)) (by decide +kernel))
set_option maxRecDepth 20000 in
theorem gX9_accrued_X4_ratio : GoodIn wsX9_accrued (wsV RX9 83 RX4 yX4_ratio wsX4_ratio) := goodIn_app (goodIn_of _ (by decide +kernel)) ggX9_accrued_X4_ratio
set_option maxRecDepth 20000 in
theorem ggX9_accrued_X9_demand : GoodIn wsX9_accrued wsX9_demand := goodIn_ca (goodIn_r _ [10, 11, 12] (by decide +kernel) (by decide +kernel)) (goodIn_sub (fun _ h => List.mem_cons_of_mem _ (List.mem_append_left _ (List.mem_append_right _ h))) (by decide +kernel))
set_option maxRecDepth 20000 in
theorem gX9_accrued_X9_demand : GoodIn wsX9_accrued (va_wsS RX9 67 yX9_demand wsX9_demand) := goodIn_app (goodIn_of _ (by decide +kernel)) ggX9_accrued_X9_demand
set_option maxRecDepth 20000 in
theorem ggX9_accrued_X9_isWithin : GoodIn wsX9_accrued wsX9_isWithin := goodIn_r _ [7] (by decide +kernel) (by decide +kernel)
set_option maxRecDepth 20000 in
theorem gX9_accrued_X9_isWithin : GoodIn wsX9_accrued (va_wsS RX9 63 yX9_isWithin wsX9_isWithin) := goodIn_app (goodIn_of _ (by decide +kernel)) ggX9_accrued_X9_isWithin
set_option maxRecDepth 20000 in
theorem ggX9_amount_X5_amountIn : GoodIn wsX9_amount wsX5_amountIn := goodIn_r _ [16, 17, 26, 27, 28] (by decide +kernel) (by decide +kernel)
set_option maxRecDepth 20000 in
theorem gX9_amount_X5_amountIn : GoodIn wsX9_amount (wsV RX9 97 RX5 yX5_amountIn wsX5_amountIn) := goodIn_app (goodIn_of _ (by decide +kernel)) ggX9_amount_X5_amountIn
set_option maxRecDepth 20000 in
theorem ggX9_amount_X9_demand : GoodIn wsX9_amount wsX9_demand := goodIn_ca (goodIn_r _ [9, 10, 11] (by decide +kernel) (by decide +kernel)) (goodIn_sub (fun _ h => List.mem_cons_of_mem _ (List.mem_append_right _ h)) (by decide +kernel))
set_option maxRecDepth 20000 in
theorem gX9_amount_X9_demand : GoodIn wsX9_amount (va_wsS RX9 67 yX9_demand wsX9_demand) := goodIn_app (goodIn_of _ (by decide +kernel)) ggX9_amount_X9_demand
set_option maxRecDepth 20000 in
theorem ggX9_amount_X9_isWithin : GoodIn wsX9_amount wsX9_isWithin := goodIn_r _ [6] (by decide +kernel) (by decide +kernel)
set_option maxRecDepth 20000 in
theorem gX9_amount_X9_isWithin : GoodIn wsX9_amount (va_wsS RX9 63 yX9_isWithin wsX9_isWithin) := goodIn_app (goodIn_of _ (by decide +kernel)) ggX9_amount_X9_isWithin
set_option maxRecDepth 20000 in
theorem ggX9_bondYield_X0_yieldPoints : GoodIn wsX9_bondYield wsX0_yieldPoints := goodIn_r _ [21, 22, 23, 24, 25, 20, 26, 27, 28, 29, 30, 31, 32, 33, 34, 35, 36, 37, 38, 39, 40, 41, 42, 43, 44, 45, 46, 47, 48, 49, 50, 51, 52, 53, 54, 55, 56, 57, 58, 59, 60, 61, 62, 63, 64, 65, 66, 67, 68, 69, 70, 71, 72, 73, 74, 75, 76, 77, 78, 79, 80, 81, 82, 83, 84, 85, 86, 87, 88, 89, 90, 91, 92, 93, 94, 95, 96, 97, 98, 99, 100, 101, 102, 103, 104, 105, 106, 107, 108, 109, 110, 111, 112, 113, 114, 115, 116, 117, 118, 119, 120, 121, 122, 123, 132, 133, 134, 135, 136, 137, 138, 139, 140, 141] (by decide +kernel) (by decide +kernel)
set_option maxRecDepth 20000 in
theorem gX9_bondYield_X0_yieldPoints : GoodIn wsX9_bondYield (wsV RX9 195 RX0 yX0_yieldPoints wsX0_yieldPoints) := goodIn_app (goodIn_of _ (by decide +kernel)) ggX9_bondYield_X0_yieldPoints
set_option maxRecDepth 20000 in
theorem ggX9_bondYield_X9_demand : GoodIn wsX9_bondYield wsX9_demand := goodIn_ca (goodIn_r _ [14, 15, 16] (by decide +kernel) (by decide +kernel)) (goodIn_sub (fun _ h => List.mem_cons_of_mem _ (List.mem_append_right _ h)) (by decide +kernel))
set_option maxRecDepth 20000 in
theorem gX9_bondYield_X9_demand : GoodIn wsX9_bondYield (va_wsS RX9 67 yX9_demand wsX9_demand) := goodIn_app (goodIn_of _ (by decide +kernel)) ggX9_bondYield_X9_demand
set_option maxRecDepth 20000 in
theorem ggX9_bondYield_X9_demandBond : GoodIn wsX9_bondYield wsX9_demandBond := goodIn_ca (goodIn_r _ [6, 7, 8, 9, 10, 5, 11, 12, 13, 14, 15, 16] (by decide +kernel) (by decide +kernel)) (goodIn_sub (fun _ h => List.mem_cons_of_mem _ (List.mem_append_right _ h)) (by decide +kernel))
set_option maxRecDepth 20000 in
theorem gX9_bondYield_X9_demandBond : GoodIn wsX9_bondYield (va_wsS RX9 187 yX9_demandBond wsX9_demandBond) := goodIn_app (goodIn_of _ (by decide +kernel)) ggX9_bondYield_X9_demandBond
set_option maxRecDepth 20000 in
theorem ggX9_bondYield_X9_isWithin : GoodIn wsX9_bondYield wsX9_isWithin := goodIn_r _ [11] (by decide +kernel) (by decide +kernel)
set_option maxRecDepth 20000 in
theorem gX9_bondYield_X9_isWithin : GoodIn wsX9_bondYield (va_wsS RX9 63 yX9_isWithin wsX9_isWithin) := goodIn_app (goodIn_of _ (by decide +kernel)) ggX9_bondYield_X9_isWithin
set_option maxRecDepth 20000 in
theorem ggX9_changes_X5_countChanges : GoodIn wsX9_changes wsX5_countChanges := goodIn_r _ [6, 7, 16, 17, 18] (by decide +kernel) (by decide +kernel)
set_option maxRecDepth 20000 in
theorem gX9_changes_X5_countChanges : GoodIn wsX9_changes (wsV RX9 126 RX5 yX5_countChanges wsX5_countChanges) := goodIn_app (goodIn_of _ (by decide +kernel)) ggX9_changes_X5_countChanges
set_option maxRecDepth 20000 in
theorem ggX9_clearLives_X2_clear : GoodIn wsX9_clearLives wsX2_clear := goodIn_r _ [6, 7, 16, 17, 18, 19] (by decide +kernel) (by decide +kernel)
set_option maxRecDepth 20000 in
theorem gX9_clearLives_X2_clear : GoodIn wsX9_clearLives (wsV RX9 208 RX2 yX2_clear wsX2_clear) := goodIn_app (goodIn_of _ (by decide +kernel)) ggX9_clearLives_X2_clear
set_option maxRecDepth 20000 in
theorem ggX9_clearRow_X5_clear : GoodIn wsX9_clearRow wsX5_clear := goodIn_r _ [11, 7, 12, 13, 14, 15, 24, 25, 26] (by decide +kernel) (by decide +kernel)
set_option maxRecDepth 20000 in
theorem gX9_clearRow_X5_clear : GoodIn wsX9_clearRow (wsV RX9 111 RX5 yX5_clear wsX5_clear) := goodIn_app (goodIn_of _ (by decide +kernel)) ggX9_clearRow_X5_clear
set_option maxRecDepth 20000 in
theorem ggX9_clearRow_X5_countPaying : GoodIn wsX9_clearRow wsX5_countPaying := goodIn_r _ [6, 7, 24, 25, 26] (by decide +kernel) (by decide +kernel)
set_option maxRecDepth 20000 in
theorem gX9_clearRow_X5_countPaying : GoodIn wsX9_clearRow (wsV RX9 107 RX5 yX5_countPaying wsX5_countPaying) := goodIn_app (goodIn_of _ (by decide +kernel)) ggX9_clearRow_X5_countPaying
set_option maxRecDepth 20000 in
theorem ggX9_clearSteps_X7_clear : GoodIn wsX9_clearSteps wsX7_clear := goodIn_r _ [6, 7, 16, 17, 18] (by decide +kernel) (by decide +kernel)
set_option maxRecDepth 20000 in
theorem gX9_clearSteps_X7_clear : GoodIn wsX9_clearSteps (wsV RX9 252 RX7 yX7_clear wsX7_clear) := goodIn_app (goodIn_of _ (by decide +kernel)) ggX9_clearSteps_X7_clear
set_option maxRecDepth 20000 in
theorem ggX9_clearWeights_X6_clear : GoodIn wsX9_clearWeights wsX6_clear := goodIn_r _ [6, 7, 16, 17] (by decide +kernel) (by decide +kernel)
set_option maxRecDepth 20000 in
theorem gX9_clearWeights_X6_clear : GoodIn wsX9_clearWeights (wsV RX9 232 RX6 yX6_clear wsX6_clear) := goodIn_app (goodIn_of _ (by decide +kernel)) ggX9_clearWeights_X6_clear
set_option maxRecDepth 20000 in
theorem ggX9_demandBond_X9_demand : GoodIn wsX9_demandBond wsX9_demand := goodIn_ca (goodIn_r _ [9, 10, 11] (by decide +kernel) (by decide +kernel)) (goodIn_sub (fun _ h => List.mem_cons_of_mem _ (List.mem_append_right _ h)) (by decide +kernel))
set_option maxRecDepth 20000 in
theorem gX9_demandBond_X9_demand : GoodIn wsX9_demandBond (va_wsS RX9 67 yX9_demand wsX9_demand) := goodIn_app (goodIn_of _ (by decide +kernel)) ggX9_demandBond_X9_demand
set_option maxRecDepth 20000 in
theorem ggX9_demandBond_X9_isWithin : GoodIn wsX9_demandBond wsX9_isWithin := goodIn_r _ [6] (by decide +kernel) (by decide +kernel)
set_option maxRecDepth 20000 in
theorem gX9_demandBond_X9_isWithin : GoodIn wsX9_demandBond (va_wsS RX9 63 yX9_isWithin wsX9_isWithin) := goodIn_app (goodIn_of _ (by decide +kernel)) ggX9_demandBond_X9_isWithin
set_option maxRecDepth 20000 in
theorem ggX9_demandRate_X9_demand : GoodIn wsX9_demandRate wsX9_demand := goodIn_ca (goodIn_r _ [8, 9, 10] (by decide +kernel) (by decide +kernel)) (goodIn_sub (fun _ h => List.mem_cons_of_mem _ (List.mem_append_right _ h)) (by decide +kernel))
set_option maxRecDepth 20000 in
theorem gX9_demandRate_X9_demand : GoodIn wsX9_demandRate (va_wsS RX9 67 yX9_demand wsX9_demand) := goodIn_app (goodIn_of _ (by decide +kernel)) ggX9_demandRate_X9_demand
set_option maxRecDepth 20000 in
theorem ggX9_demandRate_X9_isWithin : GoodIn wsX9_demandRate wsX9_isWithin := goodIn_r _ [5] (by decide +kernel) (by decide +kernel)
set_option maxRecDepth 20000 in
theorem gX9_demandRate_X9_isWithin : GoodIn wsX9_demandRate (va_wsS RX9 63 yX9_isWithin wsX9_isWithin) := goodIn_app (goodIn_of _ (by decide +kernel)) ggX9_demandRate_X9_isWithin
set_option maxRecDepth 20000 in
theorem ggX9_payMany_X5_add : GoodIn wsX9_payMany wsX5_add := goodIn_ca (goodIn_r _ [21, 22, 23, 24, 9, 10, 11, 25, 26, 27, 28, 41, 42, 43] (by decide +kernel) (by decide +kernel)) (goodIn_sub (fun _ h => List.mem_cons_of_mem _ (List.mem_append_right _ h)) (by decide +kernel))
set_option maxRecDepth 20000 in
theorem gX9_payMany_X5_add : GoodIn wsX9_payMany (wsV RX9 93 RX5 yX5_add wsX5_add) := goodIn_app (goodIn_of _ (by decide +kernel)) ggX9_payMany_X5_add
set_option maxRecDepth 20000 in
theorem ggX9_payMany_X5_countPaying : GoodIn wsX9_payMany wsX5_countPaying := goodIn_r _ [32, 22, 41, 42, 43] (by decide +kernel) (by decide +kernel)
set_option maxRecDepth 20000 in
theorem gX9_payMany_X5_countPaying : GoodIn wsX9_payMany (wsV RX9 107 RX5 yX5_countPaying wsX5_countPaying) := goodIn_app (goodIn_of _ (by decide +kernel)) ggX9_payMany_X5_countPaying
set_option maxRecDepth 20000 in
theorem ggX9_payMany_X9_demand : GoodIn wsX9_payMany wsX9_demand := goodIn_ca (goodIn_r _ [14, 15, 16] (by decide +kernel) (by decide +kernel)) (goodIn_sub (fun _ h => List.mem_cons_of_mem _ (List.mem_append_left _ (List.mem_append_right _ h))) (by decide +kernel))
set_option maxRecDepth 20000 in
theorem gX9_payMany_X9_demand : GoodIn wsX9_payMany (va_wsS RX9 67 yX9_demand wsX9_demand) := goodIn_app (goodIn_of _ (by decide +kernel)) ggX9_payMany_X9_demand
set_option maxRecDepth 20000 in
theorem ggX9_payMany_X9_isWithin : GoodIn wsX9_payMany wsX9_isWithin := goodIn_r _ [11] (by decide +kernel) (by decide +kernel)
set_option maxRecDepth 20000 in
theorem gX9_payMany_X9_isWithin : GoodIn wsX9_payMany (va_wsS RX9 63 yX9_isWithin wsX9_isWithin) := goodIn_app (goodIn_of _ (by decide +kernel)) ggX9_payMany_X9_isWithin
set_option maxRecDepth 20000 in
theorem ggX9_pay_X5_add : GoodIn wsX9_pay wsX5_add := goodIn_ca (goodIn_r _ [18, 19, 20, 21, 6, 7, 8, 22, 23, 24, 25, 38, 39, 40] (by decide +kernel) (by decide +kernel)) (goodIn_sub (fun _ h => List.mem_cons_of_mem _ (List.mem_append_right _ h)) (by decide +kernel))
set_option maxRecDepth 20000 in
theorem gX9_pay_X5_add : GoodIn wsX9_pay (wsV RX9 93 RX5 yX5_add wsX5_add) := goodIn_app (goodIn_of _ (by decide +kernel)) ggX9_pay_X5_add
set_option maxRecDepth 20000 in
theorem ggX9_pay_X5_amountIn : GoodIn wsX9_pay wsX5_amountIn := goodIn_r _ [29, 19, 38, 39, 40] (by decide +kernel) (by decide +kernel)
set_option maxRecDepth 20000 in
theorem gX9_pay_X5_amountIn : GoodIn wsX9_pay (wsV RX9 97 RX5 yX5_amountIn wsX5_amountIn) := goodIn_app (goodIn_of _ (by decide +kernel)) ggX9_pay_X5_amountIn
set_option maxRecDepth 20000 in
theorem ggX9_pay_X9_demand : GoodIn wsX9_pay wsX9_demand := goodIn_ca (goodIn_r _ [11, 12, 13] (by decide +kernel) (by decide +kernel)) (goodIn_sub (fun _ h => List.mem_cons_of_mem _ (List.mem_append_left _ (List.mem_append_right _ h))) (by decide +kernel))
set_option maxRecDepth 20000 in
theorem gX9_pay_X9_demand : GoodIn wsX9_pay (va_wsS RX9 67 yX9_demand wsX9_demand) := goodIn_app (goodIn_of _ (by decide +kernel)) ggX9_pay_X9_demand
set_option maxRecDepth 20000 in
theorem ggX9_pay_X9_isWithin : GoodIn wsX9_pay wsX9_isWithin := goodIn_r _ [8] (by decide +kernel) (by decide +kernel)
set_option maxRecDepth 20000 in
theorem gX9_pay_X9_isWithin : GoodIn wsX9_pay (va_wsS RX9 63 yX9_isWithin wsX9_isWithin) := goodIn_app (goodIn_of _ (by decide +kernel)) ggX9_pay_X9_isWithin
set_option maxRecDepth 20000 in
theorem ggX9_price_X0_worthNow : GoodIn wsX9_price wsX0_worthNow := goodIn_ca (goodIn_r _ [25, 26, 27, 28, 29, 30, 24, 31, 32, 33, 34, 35, 36, 37, 38, 39, 40, 41, 42, 43, 44, 45, 46, 47, 48, 49, 50, 51, 52, 53, 54, 55, 56, 57, 58, 59, 60, 61, 62, 63, 64, 65, 66, 67, 68, 69, 70, 71, 72, 73, 74, 75, 76, 77, 78, 79, 80, 81, 82, 83, 84, 85, 86, 87, 88, 89, 90, 91, 92, 93, 94, 95, 96, 97, 98, 99, 100, 101, 102, 103, 104, 105, 106, 107, 108, 109, 110, 111, 112, 113, 114, 115, 116, 117, 118, 119, 120, 121, 122, 123, 124, 125, 126, 127, 128, 129, 130, 131, 132, 133, 134, 135, 136, 137, 138, 139, 140, 141, 142, 143, 144, 145, 146, 147, 148, 149, 150, 151, 152, 153, 154, 155, 5, 156, 157, 158, 159, 160, 161, 162, 171, 172, 173, 174, 175, 176, 177, 178, 179, 180, 181] (by decide +kernel) (by decide +kernel)) (goodIn_sub (fun _ h => List.mem_cons_of_mem _ (List.mem_append_right _ h)) (by decide +kernel))
set_option maxRecDepth 20000 in
theorem gX9_price_X0_worthNow : GoodIn wsX9_price (wsV RX9 191 RX0 yX0_worthNow wsX0_worthNow) := goodIn_app (goodIn_of _ (by decide +kernel)) ggX9_price_X0_worthNow
set_option maxRecDepth 20000 in
theorem ggX9_price_X9_demandBond : GoodIn wsX9_price wsX9_demandBond := goodIn_ca (goodIn_r _ [6, 7, 8, 9, 10, 5, 11, 12, 13, 14, 15, 16] (by decide +kernel) (by decide +kernel)) (goodIn_sub (fun _ h => List.mem_cons_of_mem _ (List.mem_append_left _ (List.mem_append_right _ h))) (by decide +kernel))
set_option maxRecDepth 20000 in
theorem gX9_price_X9_demandBond : GoodIn wsX9_price (va_wsS RX9 187 yX9_demandBond wsX9_demandBond) := goodIn_app (goodIn_of _ (by decide +kernel)) ggX9_price_X9_demandBond
set_option maxRecDepth 20000 in
theorem ggX9_price_X9_demandRate : GoodIn wsX9_price wsX9_demandRate := goodIn_ca (goodIn_r _ [19, 20, 9, 10, 5, 11, 12, 13, 14, 15, 16] (by decide +kernel) (by decide +kernel)) (goodIn_sub (fun _ h => List.mem_cons_of_mem _ (List.mem_append_left _ (List.mem_append_right _ h))) (by decide +kernel))
set_option maxRecDepth 20000 in
theorem gX9_price_X9_demandRate : GoodIn wsX9_price (va_wsS RX9 114 yX9_demandRate wsX9_demandRate) := goodIn_app (goodIn_of _ (by decide +kernel)) ggX9_price_X9_demandRate
set_option maxRecDepth 20000 in
theorem ggX9_round_X4_ratio : GoodIn wsX9_round wsX4_ratio := goodIn_ca (goodIn_r _ [19, 20, 21, 22, 23, 24, 25, 18, 26, 27, 28, 29, 30, 31, 32, 8, 33, 34, 35, 36, 37, 38, 39, 40, 49] (by decide +kernel) (by decide +kernel)) (goodIn_sub (fun _ h => List.mem_cons_of_mem _ (List.mem_append_right _ h)) (by decide +kernel))
set_option maxRecDepth 20000 in
theorem gX9_round_X4_ratio : GoodIn wsX9_round (wsV RX9 83 RX4 yX4_ratio wsX4_ratio) := goodIn_app (goodIn_of _ (by decide +kernel)) ggX9_round_X4_ratio
set_option maxRecDepth 20000 in
theorem ggX9_round_X9_demand : GoodIn wsX9_round wsX9_demand := goodIn_ca (goodIn_r _ [12, 13, 14] (by decide +kernel) (by decide +kernel)) (goodIn_sub (fun _ h => List.mem_cons_of_mem _ (List.mem_append_left _ (List.mem_append_right _ h))) (by decide +kernel))
set_option maxRecDepth 20000 in
theorem gX9_round_X9_demand : GoodIn wsX9_round (va_wsS RX9 67 yX9_demand wsX9_demand) := goodIn_app (goodIn_of _ (by decide +kernel)) ggX9_round_X9_demand
set_option maxRecDepth 20000 in
theorem ggX9_round_X9_isWithin : GoodIn wsX9_round wsX9_isWithin := goodIn_r _ [9] (by decide +kernel) (by decide +kernel)
set_option maxRecDepth 20000 in
theorem gX9_round_X9_isWithin : GoodIn wsX9_round (va_wsS RX9 63 yX9_isWithin wsX9_isWithin) := goodIn_app (goodIn_of _ (by decide +kernel)) ggX9_round_X9_isWithin
set_option maxRecDepth 20000 in
theorem ggX9_rowYield_X5_countChanges : GoodIn wsX9_rowYield wsX5_countChanges := goodIn_r _ [6, 7, 122, 123, 124] (by decide +kernel) (by decide +kernel)
set_option maxRecDepth 20000 in
theorem gX9_rowYield_X5_countChanges : GoodIn wsX9_rowYield (wsV RX9 126 RX5 yX5_countChanges wsX5_countChanges) := goodIn_app (goodIn_of _ (by decide +kernel)) ggX9_rowYield_X5_countChanges
set_option maxRecDepth 20000 in
theorem ggX9_rowYield_X5_yieldPoints : GoodIn wsX9_rowYield wsX5_yieldPoints := goodIn_r _ [17, 18, 19, 20, 21, 5, 22, 7, 23, 24, 25, 26, 27, 28, 29, 30, 31, 32, 33, 34, 35, 36, 37, 38, 39, 40, 41, 42, 43, 44, 45, 46, 47, 48, 49, 50, 51, 52, 53, 54, 55, 56, 57, 58, 59, 60, 61, 62, 63, 64, 65, 66, 67, 68, 69, 70, 71, 72, 73, 74, 75, 76, 77, 78, 79, 80, 81, 82, 83, 84, 85, 86, 87, 88, 89, 90, 91, 92, 93, 94, 95, 96, 97, 98, 99, 100, 101, 102, 103, 104, 105, 106, 107, 108, 109, 110, 111, 112, 113, 122, 123, 124, 125, 126, 127, 128, 129, 130, 131, 132, 133] (by decide +kernel) (by decide +kernel)
set_option maxRecDepth 20000 in
theorem gX9_rowYield_X5_yieldPoints : GoodIn wsX9_rowYield (wsV RX9 132 RX5 yX5_yieldPoints wsX5_yieldPoints) := goodIn_app (goodIn_of _ (by decide +kernel)) ggX9_rowYield_X5_yieldPoints
set_option maxRecDepth 20000 in
theorem ggX9_rowYield_X9_demandState : GoodIn wsX9_rowYield wsX9_demandState := goodIn_ca (goodIn_r _ [11, 12, 13] (by decide +kernel) (by decide +kernel)) (goodIn_sub (fun _ h => List.mem_cons_of_mem _ (List.mem_append_right _ h)) (by decide +kernel))
set_option maxRecDepth 20000 in
theorem gX9_rowYield_X9_demandState : GoodIn wsX9_rowYield (va_wsS RX9 129 yX9_demandState wsX9_demandState) := goodIn_app (goodIn_of _ (by decide +kernel)) ggX9_rowYield_X9_demandState
set_option maxRecDepth 20000 in
theorem ggX9_setMode_X9_demand : GoodIn wsX9_setMode wsX9_demand := goodIn_ca (goodIn_r _ [10, 11, 12] (by decide +kernel) (by decide +kernel)) (goodIn_sub (fun _ h => List.mem_cons_of_mem _ (List.mem_append_right _ h)) (by decide +kernel))
set_option maxRecDepth 20000 in
theorem gX9_setMode_X9_demand : GoodIn wsX9_setMode (va_wsS RX9 67 yX9_demand wsX9_demand) := goodIn_app (goodIn_of _ (by decide +kernel)) ggX9_setMode_X9_demand
set_option maxRecDepth 20000 in
theorem ggX9_setMode_X9_isWithin : GoodIn wsX9_setMode wsX9_isWithin := goodIn_r _ [7] (by decide +kernel) (by decide +kernel)
set_option maxRecDepth 20000 in
theorem gX9_setMode_X9_isWithin : GoodIn wsX9_setMode (va_wsS RX9 63 yX9_isWithin wsX9_isWithin) := goodIn_app (goodIn_of _ (by decide +kernel)) ggX9_setMode_X9_isWithin
set_option maxRecDepth 20000 in
theorem ggX9_signAt_X5_signOfWorth : GoodIn wsX9_signAt wsX5_signOfWorth := goodIn_r _ [19, 20, 21, 22, 23, 24, 18, 25, 26, 27, 28, 29, 30, 31, 32, 33, 34, 35, 36, 37, 38, 39, 40, 41, 42, 43, 44, 45, 46, 47, 48, 49, 50, 51, 52, 53, 54, 55, 56, 57, 58, 59, 60, 61, 62, 63, 64, 65, 66, 67, 68, 69, 70, 71, 72, 73, 74, 75, 76, 77, 78, 79, 80, 81, 82, 83, 84, 85, 86, 87, 88, 89, 90, 91, 92, 93, 94, 95, 96, 97, 98, 99, 100, 101, 102, 103, 104, 105, 106, 107, 116, 117, 118, 119, 120, 121, 122, 123, 124, 125, 126, 127] (by decide +kernel) (by decide +kernel)
set_option maxRecDepth 20000 in
theorem gX9_signAt_X5_signOfWorth : GoodIn wsX9_signAt (wsV RX9 122 RX5 yX5_signOfWorth wsX5_signOfWorth) := goodIn_app (goodIn_of _ (by decide +kernel)) ggX9_signAt_X5_signOfWorth
set_option maxRecDepth 20000 in
theorem ggX9_signAt_X9_demandRate : GoodIn wsX9_signAt wsX9_demandRate := goodIn_ca (goodIn_r _ [5, 6, 7, 8, 4, 9, 10, 11, 12, 13, 14] (by decide +kernel) (by decide +kernel)) (goodIn_sub (fun _ h => List.mem_cons_of_mem _ (List.mem_append_right _ h)) (by decide +kernel))
set_option maxRecDepth 20000 in
theorem gX9_signAt_X9_demandRate : GoodIn wsX9_signAt (va_wsS RX9 114 yX9_demandRate wsX9_demandRate) := goodIn_app (goodIn_of _ (by decide +kernel)) ggX9_signAt_X9_demandRate
set_option maxRecDepth 20000 in
theorem ggX9_tax_X4_ratio : GoodIn wsX9_tax wsX4_ratio := goodIn_ca (goodIn_r _ [33, 34, 35, 23, 36, 37, 38, 32, 39, 40, 41, 42, 43, 44, 45, 7, 46, 47, 48, 49, 50, 51, 52, 53, 65] (by decide +kernel) (by decide +kernel)) (goodIn_sub (fun _ h => List.mem_cons_of_mem _ (List.mem_append_right _ h)) (by decide +kernel))
set_option maxRecDepth 20000 in
theorem gX9_tax_X4_ratio : GoodIn wsX9_tax (wsV RX9 83 RX4 yX4_ratio wsX4_ratio) := goodIn_app (goodIn_of _ (by decide +kernel)) ggX9_tax_X4_ratio
set_option maxRecDepth 20000 in
theorem ggX9_tax_X7_thousandfoldOf : GoodIn wsX9_tax wsX7_thousandfoldOf := goodIn_r _ [18, 19, 20, 21, 22, 23, 24, 25, 26, 27, 28, 62, 63, 64] (by decide +kernel) (by decide +kernel)
set_option maxRecDepth 20000 in
theorem gX9_tax_X7_thousandfoldOf : GoodIn wsX9_tax (wsV RX9 253 RX7 yX7_thousandfoldOf wsX7_thousandfoldOf) := goodIn_app (goodIn_of _ (by decide +kernel)) ggX9_tax_X7_thousandfoldOf
set_option maxRecDepth 20000 in
theorem ggX9_tax_X9_demand : GoodIn wsX9_tax wsX9_demand := goodIn_ca (goodIn_r _ [11, 12, 13] (by decide +kernel) (by decide +kernel)) (goodIn_sub (fun _ h => List.mem_cons_of_mem _ (List.mem_append_left _ (List.mem_append_right _ h))) (by decide +kernel))
set_option maxRecDepth 20000 in
theorem gX9_tax_X9_demand : GoodIn wsX9_tax (va_wsS RX9 67 yX9_demand wsX9_demand) := goodIn_app (goodIn_of _ (by decide +kernel)) ggX9_tax_X9_demand
set_option maxRecDepth 20000 in
theorem ggX9_tax_X9_isWithin : GoodIn wsX9_tax wsX9_isWithin := goodIn_r _ [8] (by decide +kernel) (by decide +kernel)
set_option maxRecDepth 20000 in
theorem gX9_tax_X9_isWithin : GoodIn wsX9_tax (va_wsS RX9 63 yX9_isWithin wsX9_isWithin) := goodIn_app (goodIn_of _ (by decide +kernel)) ggX9_tax_X9_isWithin
set_option maxRecDepth 20000 in
theorem ggX9_untaxed_X7_leastLeaving : GoodIn wsX9_untaxed wsX7_leastLeaving := goodIn_r _ [16, 17, 18, 19, 20, 21, 22, 23, 15, 24, 25, 26, 27, 28, 29, 30, 31, 32, 33, 34, 35, 36, 37, 38, 39, 48, 49, 50] (by decide +kernel) (by decide +kernel)
set_option maxRecDepth 20000 in
theorem gX9_untaxed_X7_leastLeaving : GoodIn wsX9_untaxed (wsV RX9 257 RX7 yX7_leastLeaving wsX7_leastLeaving) := goodIn_app (goodIn_of _ (by decide +kernel)) ggX9_untaxed_X7_leastLeaving
set_option maxRecDepth 20000 in
theorem ggX9_untaxed_X9_demand : GoodIn wsX9_untaxed wsX9_demand := goodIn_ca (goodIn_r _ [9, 10, 11] (by decide +kernel) (by decide +kernel)) (goodIn_sub (fun _ h => List.mem_cons_of_mem _ (List.mem_append_right _ h)) (by decide +kernel))
set_option maxRecDepth 20000 in
theorem gX9_untaxed_X9_demand : GoodIn wsX9_untaxed (va_wsS RX9 67 yX9_demand wsX9_demand) := goodIn_app (goodIn_of _ (by decide +kernel)) ggX9_untaxed_X9_demand
set_option maxRecDepth 20000 in
theorem ggX9_untaxed_X9_isWithin : GoodIn wsX9_untaxed wsX9_isWithin := goodIn_r _ [6] (by decide +kernel) (by decide +kernel)
set_option maxRecDepth 20000 in
theorem gX9_untaxed_X9_isWithin : GoodIn wsX9_untaxed (va_wsS RX9 63 yX9_isWithin wsX9_isWithin) := goodIn_app (goodIn_of _ (by decide +kernel)) ggX9_untaxed_X9_isWithin
set_option maxRecDepth 20000 in
theorem ggX9_worth_X5_worthIn : GoodIn wsX9_worth wsX5_worthIn := goodIn_ca (goodIn_r _ [21, 22, 23, 24, 25, 26, 27, 28, 29, 30, 31, 20, 32, 33, 34, 35, 36, 37, 38, 39, 40, 41, 42, 43, 44, 45, 46, 47, 48, 49, 50, 51, 52, 53, 54, 55, 56, 57, 58, 59, 60, 61, 62, 63, 64, 65, 66, 67, 68, 69, 70, 71, 72, 73, 74, 75, 76, 77, 78, 79, 80, 81, 82, 83, 84, 85, 86, 87, 88, 89, 90, 91, 92, 93, 94, 95, 96, 97, 98, 99, 100, 101, 102, 103, 104, 105, 106, 107, 108, 109, 110, 111, 112, 113, 114, 115, 116, 117, 118, 119, 120, 121, 122, 123, 124, 125, 126, 127, 128, 129, 130, 131, 132, 133, 134, 135, 136, 137, 138, 139, 140, 141, 142, 143, 144, 145, 146, 147, 148, 149, 150, 151, 152, 153, 154, 155, 156, 157, 158, 159, 6, 160, 161, 162, 163, 164, 165, 166, 175, 176, 177, 178, 179, 180, 181, 182, 183, 184, 185, 186, 187] (by decide +kernel) (by decide +kernel)) (goodIn_sub (fun _ h => List.mem_cons_of_mem _ (List.mem_append_right _ h)) (by decide +kernel))
set_option maxRecDepth 20000 in
theorem gX9_worth_X5_worthIn : GoodIn wsX9_worth (wsV RX9 118 RX5 yX5_worthIn wsX5_worthIn) := goodIn_app (goodIn_of _ (by decide +kernel)) ggX9_worth_X5_worthIn
set_option maxRecDepth 20000 in
theorem ggX9_worth_X9_demand : GoodIn wsX9_worth wsX9_demand := goodIn_ca (goodIn_r _ [10, 11, 12] (by decide +kernel) (by decide +kernel)) (goodIn_sub (fun _ h => List.mem_cons_of_mem _ (List.mem_append_left _ (List.mem_append_right _ h))) (by decide +kernel))
set_option maxRecDepth 20000 in
theorem gX9_worth_X9_demand : GoodIn wsX9_worth (va_wsS RX9 67 yX9_demand wsX9_demand) := goodIn_app (goodIn_of _ (by decide +kernel)) ggX9_worth_X9_demand
set_option maxRecDepth 20000 in
theorem ggX9_worth_X9_demandRate : GoodIn wsX9_worth wsX9_demandRate := goodIn_ca (goodIn_r _ [15, 16, 4, 5, 6, 7, 8, 9, 10, 11, 12] (by decide +kernel) (by decide +kernel)) (goodIn_sub (fun _ h => List.mem_cons_of_mem _ (List.mem_append_left _ (List.mem_append_right _ h))) (by decide +kernel))
set_option maxRecDepth 20000 in
theorem gX9_worth_X9_demandRate : GoodIn wsX9_worth (va_wsS RX9 114 yX9_demandRate wsX9_demandRate) := goodIn_app (goodIn_of _ (by decide +kernel)) ggX9_worth_X9_demandRate
set_option maxRecDepth 20000 in
theorem ggX9_worth_X9_isWithin : GoodIn wsX9_worth wsX9_isWithin := goodIn_r _ [7] (by decide +kernel) (by decide +kernel)
set_option maxRecDepth 20000 in
theorem gX9_worth_X9_isWithin : GoodIn wsX9_worth (va_wsS RX9 63 yX9_isWithin wsX9_isWithin) := goodIn_app (goodIn_of _ (by decide +kernel)) ggX9_worth_X9_isWithin
