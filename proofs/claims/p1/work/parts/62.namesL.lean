-- printed rows that the walks use
theorem dL_accrued_0 : decode cL_accrued 0 = .ok (.aload 5, 2) := by decide +kernel
theorem dL_accrued_11 : decode cL_accrued 11 = .ok (.lastore, 1) := by decide +kernel
theorem dL_accrued_12 : decode cL_accrued 12 = .ok (.goto 11, 3) := by decide +kernel
theorem dL_accrued_15 : decode cL_accrued 15 = .ok (.astore 6, 2) := by decide +kernel
theorem dL_accrued_17 : decode cL_accrued 17 = .ok (.iconst 1, 1) := by decide +kernel
theorem dL_accrued_18 : decode cL_accrued 18 = .ok (.ireturn, 1) := by decide +kernel
theorem dL_accrued_2 : decode cL_accrued 2 = .ok (.iconst 0, 1) := by decide +kernel
theorem dL_accrued_23 : decode cL_accrued 23 = .ok (.iconst 0, 1) := by decide +kernel
theorem dL_accrued_24 : decode cL_accrued 24 = .ok (.ireturn, 1) := by decide +kernel
theorem dL_accrued_3 : decode cL_accrued 3 = .ok (.aload_n 0, 1) := by decide +kernel
theorem dL_accrued_4 : decode cL_accrued 4 = .ok (.lload_n 1, 1) := by decide +kernel
theorem dL_accrued_5 : decode cL_accrued 5 = .ok (.iload_n 3, 1) := by decide +kernel
theorem dL_accrued_6 : decode cL_accrued 6 = .ok (.iload 4, 2) := by decide +kernel
theorem dL_accrued_8 : decode cL_accrued 8 = .ok (.invokevirtual 79, 3) := by decide +kernel
theorem dL_amount_0 : decode cL_amount 0 = .ok (.aload_n 2, 1) := by decide +kernel
theorem dL_amount_1 : decode cL_amount 1 = .ok (.iconst 0, 1) := by decide +kernel
theorem dL_amount_11 : decode cL_amount 11 = .ok (.astore_n 3, 1) := by decide +kernel
theorem dL_amount_12 : decode cL_amount 12 = .ok (.iconst 1, 1) := by decide +kernel
theorem dL_amount_13 : decode cL_amount 13 = .ok (.ireturn, 1) := by decide +kernel
theorem dL_amount_14 : decode cL_amount 14 = .ok (.iconst 0, 1) := by decide +kernel
theorem dL_amount_15 : decode cL_amount 15 = .ok (.ireturn, 1) := by decide +kernel
theorem dL_amount_2 : decode cL_amount 2 = .ok (.aload_n 0, 1) := by decide +kernel
theorem dL_amount_3 : decode cL_amount 3 = .ok (.iload_n 1, 1) := by decide +kernel
theorem dL_amount_4 : decode cL_amount 4 = .ok (.invokevirtual 29, 3) := by decide +kernel
theorem dL_amount_7 : decode cL_amount 7 = .ok (.lastore, 1) := by decide +kernel
theorem dL_amount_8 : decode cL_amount 8 = .ok (.goto 6, 3) := by decide +kernel
theorem dL_bondYield_0 : decode cL_bondYield 0 = .ok (.aload 8, 2) := by decide +kernel
theorem dL_bondYield_10 : decode cL_bondYield 10 = .ok (.invokevirtual 75, 3) := by decide +kernel
theorem dL_bondYield_13 : decode cL_bondYield 13 = .ok (.i2l, 1) := by decide +kernel
theorem dL_bondYield_14 : decode cL_bondYield 14 = .ok (.lastore, 1) := by decide +kernel
theorem dL_bondYield_15 : decode cL_bondYield 15 = .ok (.goto 7, 3) := by decide +kernel
theorem dL_bondYield_18 : decode cL_bondYield 18 = .ok (.astore 9, 2) := by decide +kernel
theorem dL_bondYield_2 : decode cL_bondYield 2 = .ok (.iconst 0, 1) := by decide +kernel
theorem dL_bondYield_20 : decode cL_bondYield 20 = .ok (.iconst 1, 1) := by decide +kernel
theorem dL_bondYield_21 : decode cL_bondYield 21 = .ok (.ireturn, 1) := by decide +kernel
theorem dL_bondYield_22 : decode cL_bondYield 22 = .ok (.iconst 0, 1) := by decide +kernel
theorem dL_bondYield_23 : decode cL_bondYield 23 = .ok (.ireturn, 1) := by decide +kernel
theorem dL_bondYield_3 : decode cL_bondYield 3 = .ok (.aload_n 0, 1) := by decide +kernel
theorem dL_bondYield_4 : decode cL_bondYield 4 = .ok (.lload_n 1, 1) := by decide +kernel
theorem dL_bondYield_5 : decode cL_bondYield 5 = .ok (.lload_n 3, 1) := by decide +kernel
theorem dL_bondYield_6 : decode cL_bondYield 6 = .ok (.iload 5, 2) := by decide +kernel
theorem dL_bondYield_8 : decode cL_bondYield 8 = .ok (.lload 6, 2) := by decide +kernel
theorem dL_change_0 : decode cL_change 0 = .ok (.aload_n 3, 1) := by decide +kernel
theorem dL_change_1 : decode cL_change 1 = .ok (.iconst 0, 1) := by decide +kernel
theorem dL_change_17 : decode cL_change 17 = .ok (.astore 4, 2) := by decide +kernel
theorem dL_change_19 : decode cL_change 19 = .ok (.iconst 2, 1) := by decide +kernel
theorem dL_change_2 : decode cL_change 2 = .ok (.aload_n 0, 1) := by decide +kernel
theorem dL_change_20 : decode cL_change 20 = .ok (.ireturn, 1) := by decide +kernel
theorem dL_change_3 : decode cL_change 3 = .ok (.iload_n 1, 1) := by decide +kernel
theorem dL_change_4 : decode cL_change 4 = .ok (.iload_n 2, 1) := by decide +kernel
theorem dL_change_5 : decode cL_change 5 = .ok (.invokevirtual 52, 3) := by decide +kernel
theorem dL_deathWorth_0 : decode cL_deathWorth 0 = .ok (.aload 5, 2) := by decide +kernel
theorem dL_deathWorth_15 : decode cL_deathWorth 15 = .ok (.astore 6, 2) := by decide +kernel
theorem dL_deathWorth_17 : decode cL_deathWorth 17 = .ok (.iconst 1, 1) := by decide +kernel
theorem dL_deathWorth_18 : decode cL_deathWorth 18 = .ok (.ireturn, 1) := by decide +kernel
theorem dL_deathWorth_19 : decode cL_deathWorth 19 = .ok (.astore 6, 2) := by decide +kernel
theorem dL_deathWorth_2 : decode cL_deathWorth 2 = .ok (.iconst 0, 1) := by decide +kernel
theorem dL_deathWorth_21 : decode cL_deathWorth 21 = .ok (.iconst 2, 1) := by decide +kernel
theorem dL_deathWorth_22 : decode cL_deathWorth 22 = .ok (.ireturn, 1) := by decide +kernel
theorem dL_deathWorth_3 : decode cL_deathWorth 3 = .ok (.aload_n 0, 1) := by decide +kernel
theorem dL_deathWorth_4 : decode cL_deathWorth 4 = .ok (.iload_n 1, 1) := by decide +kernel
theorem dL_deathWorth_5 : decode cL_deathWorth 5 = .ok (.lload_n 2, 1) := by decide +kernel
theorem dL_deathWorth_6 : decode cL_deathWorth 6 = .ok (.iload 4, 2) := by decide +kernel
theorem dL_deathWorth_8 : decode cL_deathWorth 8 = .ok (.invokevirtual 89, 3) := by decide +kernel
theorem dL_early_0 : decode cL_early 0 = .ok (.aload 4, 2) := by decide +kernel
theorem dL_early_18 : decode cL_early 18 = .ok (.astore 5, 2) := by decide +kernel
theorem dL_early_2 : decode cL_early 2 = .ok (.iconst 0, 1) := by decide +kernel
theorem dL_early_20 : decode cL_early 20 = .ok (.iconst 2, 1) := by decide +kernel
theorem dL_early_21 : decode cL_early 21 = .ok (.ireturn, 1) := by decide +kernel
theorem dL_early_3 : decode cL_early 3 = .ok (.aload_n 0, 1) := by decide +kernel
theorem dL_early_4 : decode cL_early 4 = .ok (.iload_n 1, 1) := by decide +kernel
theorem dL_early_5 : decode cL_early 5 = .ok (.lload_n 2, 1) := by decide +kernel
theorem dL_early_6 : decode cL_early 6 = .ok (.invokevirtual 56, 3) := by decide +kernel
theorem dL_errors_0 : decode cL_errors 0 = .ok (.aload_n 2, 1) := by decide +kernel
theorem dL_errors_1 : decode cL_errors 1 = .ok (.iconst 0, 1) := by decide +kernel
theorem dL_errors_12 : decode cL_errors 12 = .ok (.astore_n 3, 1) := by decide +kernel
theorem dL_errors_13 : decode cL_errors 13 = .ok (.iconst 1, 1) := by decide +kernel
theorem dL_errors_14 : decode cL_errors 14 = .ok (.ireturn, 1) := by decide +kernel
theorem dL_errors_15 : decode cL_errors 15 = .ok (.iconst 0, 1) := by decide +kernel
theorem dL_errors_16 : decode cL_errors 16 = .ok (.ireturn, 1) := by decide +kernel
theorem dL_errors_2 : decode cL_errors 2 = .ok (.aload_n 0, 1) := by decide +kernel
theorem dL_errors_3 : decode cL_errors 3 = .ok (.iload_n 1, 1) := by decide +kernel
theorem dL_errors_4 : decode cL_errors 4 = .ok (.invokevirtual 117, 3) := by decide +kernel
theorem dL_errors_7 : decode cL_errors 7 = .ok (.i2l, 1) := by decide +kernel
theorem dL_errors_8 : decode cL_errors 8 = .ok (.lastore, 1) := by decide +kernel
theorem dL_errors_9 : decode cL_errors 9 = .ok (.goto 6, 3) := by decide +kernel
theorem dL_holiday_0 : decode cL_holiday 0 = .ok (.aload_n 2, 1) := by decide +kernel
theorem dL_holiday_1 : decode cL_holiday 1 = .ok (.iconst 0, 1) := by decide +kernel
theorem dL_holiday_2 : decode cL_holiday 2 = .ok (.aload_n 0, 1) := by decide +kernel
theorem dL_holiday_22 : decode cL_holiday 22 = .ok (.astore_n 3, 1) := by decide +kernel
theorem dL_holiday_23 : decode cL_holiday 23 = .ok (.iconst 2, 1) := by decide +kernel
theorem dL_holiday_24 : decode cL_holiday 24 = .ok (.ireturn, 1) := by decide +kernel
theorem dL_holiday_3 : decode cL_holiday 3 = .ok (.iload_n 1, 1) := by decide +kernel
theorem dL_holiday_4 : decode cL_holiday 4 = .ok (.invokevirtual 48, 3) := by decide +kernel
theorem dL_lend_0 : decode cL_lend 0 = .ok (.aload 5, 2) := by decide +kernel
theorem dL_lend_11 : decode cL_lend 11 = .ok (.lastore, 1) := by decide +kernel
theorem dL_lend_12 : decode cL_lend 12 = .ok (.goto 11, 3) := by decide +kernel
theorem dL_lend_15 : decode cL_lend 15 = .ok (.astore 6, 2) := by decide +kernel
theorem dL_lend_17 : decode cL_lend 17 = .ok (.iconst 1, 1) := by decide +kernel
theorem dL_lend_18 : decode cL_lend 18 = .ok (.ireturn, 1) := by decide +kernel
theorem dL_lend_2 : decode cL_lend 2 = .ok (.iconst 0, 1) := by decide +kernel
theorem dL_lend_23 : decode cL_lend 23 = .ok (.iconst 0, 1) := by decide +kernel
theorem dL_lend_24 : decode cL_lend 24 = .ok (.ireturn, 1) := by decide +kernel
theorem dL_lend_3 : decode cL_lend 3 = .ok (.aload_n 0, 1) := by decide +kernel
theorem dL_lend_4 : decode cL_lend 4 = .ok (.lload_n 1, 1) := by decide +kernel
theorem dL_lend_5 : decode cL_lend 5 = .ok (.iload_n 3, 1) := by decide +kernel
theorem dL_lend_6 : decode cL_lend 6 = .ok (.iload 4, 2) := by decide +kernel
theorem dL_lend_8 : decode cL_lend 8 = .ok (.invokevirtual 44, 3) := by decide +kernel
theorem dL_lifeWorth_0 : decode cL_lifeWorth 0 = .ok (.aload 5, 2) := by decide +kernel
theorem dL_lifeWorth_15 : decode cL_lifeWorth 15 = .ok (.astore 6, 2) := by decide +kernel
theorem dL_lifeWorth_17 : decode cL_lifeWorth 17 = .ok (.iconst 1, 1) := by decide +kernel
theorem dL_lifeWorth_18 : decode cL_lifeWorth 18 = .ok (.ireturn, 1) := by decide +kernel
theorem dL_lifeWorth_19 : decode cL_lifeWorth 19 = .ok (.astore 6, 2) := by decide +kernel
theorem dL_lifeWorth_2 : decode cL_lifeWorth 2 = .ok (.iconst 0, 1) := by decide +kernel
theorem dL_lifeWorth_21 : decode cL_lifeWorth 21 = .ok (.iconst 2, 1) := by decide +kernel
theorem dL_lifeWorth_22 : decode cL_lifeWorth 22 = .ok (.ireturn, 1) := by decide +kernel
theorem dL_lifeWorth_3 : decode cL_lifeWorth 3 = .ok (.aload_n 0, 1) := by decide +kernel
theorem dL_lifeWorth_4 : decode cL_lifeWorth 4 = .ok (.iload_n 1, 1) := by decide +kernel
theorem dL_lifeWorth_5 : decode cL_lifeWorth 5 = .ok (.lload_n 2, 1) := by decide +kernel
theorem dL_lifeWorth_6 : decode cL_lifeWorth 6 = .ok (.iload 4, 2) := by decide +kernel
theorem dL_lifeWorth_8 : decode cL_lifeWorth 8 = .ok (.invokevirtual 85, 3) := by decide +kernel
theorem dL_live_0 : decode cL_live 0 = .ok (.aload_n 2, 1) := by decide +kernel
theorem dL_live_1 : decode cL_live 1 = .ok (.iconst 0, 1) := by decide +kernel
theorem dL_live_12 : decode cL_live 12 = .ok (.astore_n 3, 1) := by decide +kernel
theorem dL_live_13 : decode cL_live 13 = .ok (.iconst 1, 1) := by decide +kernel
theorem dL_live_14 : decode cL_live 14 = .ok (.ireturn, 1) := by decide +kernel
theorem dL_live_18 : decode cL_live 18 = .ok (.iconst 0, 1) := by decide +kernel
theorem dL_live_19 : decode cL_live 19 = .ok (.ireturn, 1) := by decide +kernel
theorem dL_live_2 : decode cL_live 2 = .ok (.aload_n 0, 1) := by decide +kernel
theorem dL_live_3 : decode cL_live 3 = .ok (.iload_n 1, 1) := by decide +kernel
theorem dL_live_4 : decode cL_live 4 = .ok (.invokevirtual 82, 3) := by decide +kernel
theorem dL_live_7 : decode cL_live 7 = .ok (.i2l, 1) := by decide +kernel
theorem dL_live_8 : decode cL_live 8 = .ok (.lastore, 1) := by decide +kernel
theorem dL_live_9 : decode cL_live 9 = .ok (.goto 9, 3) := by decide +kernel
theorem dL_part_0 : decode cL_part 0 = .ok (.aload 4, 2) := by decide +kernel
theorem dL_part_13 : decode cL_part 13 = .ok (.astore 5, 2) := by decide +kernel
theorem dL_part_15 : decode cL_part 15 = .ok (.iconst 1, 1) := by decide +kernel
theorem dL_part_16 : decode cL_part 16 = .ok (.ireturn, 1) := by decide +kernel
theorem dL_part_17 : decode cL_part 17 = .ok (.astore 5, 2) := by decide +kernel
theorem dL_part_19 : decode cL_part 19 = .ok (.iconst 2, 1) := by decide +kernel
theorem dL_part_2 : decode cL_part 2 = .ok (.iconst 0, 1) := by decide +kernel
theorem dL_part_20 : decode cL_part 20 = .ok (.ireturn, 1) := by decide +kernel
theorem dL_part_3 : decode cL_part 3 = .ok (.aload_n 0, 1) := by decide +kernel
theorem dL_part_4 : decode cL_part 4 = .ok (.lload_n 1, 1) := by decide +kernel
theorem dL_part_5 : decode cL_part 5 = .ok (.iload_n 3, 1) := by decide +kernel
theorem dL_part_6 : decode cL_part 6 = .ok (.invokevirtual 102, 3) := by decide +kernel
theorem dL_payMany_0 : decode cL_payMany 0 = .ok (.aload 7, 2) := by decide +kernel
theorem dL_payMany_12 : decode cL_payMany 12 = .ok (.i2l, 1) := by decide +kernel
theorem dL_payMany_13 : decode cL_payMany 13 = .ok (.lastore, 1) := by decide +kernel
theorem dL_payMany_14 : decode cL_payMany 14 = .ok (.goto 11, 3) := by decide +kernel
theorem dL_payMany_17 : decode cL_payMany 17 = .ok (.astore 8, 2) := by decide +kernel
theorem dL_payMany_19 : decode cL_payMany 19 = .ok (.iconst 1, 1) := by decide +kernel
theorem dL_payMany_2 : decode cL_payMany 2 = .ok (.iconst 0, 1) := by decide +kernel
theorem dL_payMany_20 : decode cL_payMany 20 = .ok (.ireturn, 1) := by decide +kernel
theorem dL_payMany_21 : decode cL_payMany 21 = .ok (.astore 8, 2) := by decide +kernel
theorem dL_payMany_23 : decode cL_payMany 23 = .ok (.iconst 2, 1) := by decide +kernel
theorem dL_payMany_24 : decode cL_payMany 24 = .ok (.ireturn, 1) := by decide +kernel
theorem dL_payMany_25 : decode cL_payMany 25 = .ok (.iconst 0, 1) := by decide +kernel
theorem dL_payMany_26 : decode cL_payMany 26 = .ok (.ireturn, 1) := by decide +kernel
theorem dL_payMany_3 : decode cL_payMany 3 = .ok (.aload_n 0, 1) := by decide +kernel
theorem dL_payMany_4 : decode cL_payMany 4 = .ok (.iload_n 1, 1) := by decide +kernel
theorem dL_payMany_5 : decode cL_payMany 5 = .ok (.iload_n 2, 1) := by decide +kernel
theorem dL_payMany_6 : decode cL_payMany 6 = .ok (.lload_n 3, 1) := by decide +kernel
theorem dL_payMany_7 : decode cL_payMany 7 = .ok (.lload 5, 2) := by decide +kernel
theorem dL_payMany_9 : decode cL_payMany 9 = .ok (.invokevirtual 25, 3) := by decide +kernel
theorem dL_pay_0 : decode cL_pay 0 = .ok (.aload 4, 2) := by decide +kernel
theorem dL_pay_10 : decode cL_pay 10 = .ok (.goto 11, 3) := by decide +kernel
theorem dL_pay_13 : decode cL_pay 13 = .ok (.astore 5, 2) := by decide +kernel
theorem dL_pay_15 : decode cL_pay 15 = .ok (.iconst 1, 1) := by decide +kernel
theorem dL_pay_16 : decode cL_pay 16 = .ok (.ireturn, 1) := by decide +kernel
theorem dL_pay_2 : decode cL_pay 2 = .ok (.iconst 0, 1) := by decide +kernel
theorem dL_pay_21 : decode cL_pay 21 = .ok (.iconst 0, 1) := by decide +kernel
theorem dL_pay_22 : decode cL_pay 22 = .ok (.ireturn, 1) := by decide +kernel
theorem dL_pay_3 : decode cL_pay 3 = .ok (.aload_n 0, 1) := by decide +kernel
theorem dL_pay_4 : decode cL_pay 4 = .ok (.iload_n 1, 1) := by decide +kernel
theorem dL_pay_5 : decode cL_pay 5 = .ok (.lload_n 2, 1) := by decide +kernel
theorem dL_pay_6 : decode cL_pay 6 = .ok (.invokevirtual 21, 3) := by decide +kernel
theorem dL_pay_9 : decode cL_pay 9 = .ok (.lastore, 1) := by decide +kernel
theorem dL_premium_0 : decode cL_premium 0 = .ok (.aload 5, 2) := by decide +kernel
theorem dL_premium_15 : decode cL_premium 15 = .ok (.astore 6, 2) := by decide +kernel
theorem dL_premium_17 : decode cL_premium 17 = .ok (.iconst 1, 1) := by decide +kernel
theorem dL_premium_18 : decode cL_premium 18 = .ok (.ireturn, 1) := by decide +kernel
theorem dL_premium_19 : decode cL_premium 19 = .ok (.astore 6, 2) := by decide +kernel
theorem dL_premium_2 : decode cL_premium 2 = .ok (.iconst 0, 1) := by decide +kernel
theorem dL_premium_21 : decode cL_premium 21 = .ok (.iconst 2, 1) := by decide +kernel
theorem dL_premium_22 : decode cL_premium 22 = .ok (.ireturn, 1) := by decide +kernel
theorem dL_premium_3 : decode cL_premium 3 = .ok (.aload_n 0, 1) := by decide +kernel
theorem dL_premium_4 : decode cL_premium 4 = .ok (.iload_n 1, 1) := by decide +kernel
theorem dL_premium_5 : decode cL_premium 5 = .ok (.lload_n 2, 1) := by decide +kernel
theorem dL_premium_6 : decode cL_premium 6 = .ok (.iload 4, 2) := by decide +kernel
theorem dL_premium_8 : decode cL_premium 8 = .ok (.invokevirtual 92, 3) := by decide +kernel
theorem dL_price_0 : decode cL_price 0 = .ok (.aload 7, 2) := by decide +kernel
theorem dL_price_10 : decode cL_price 10 = .ok (.invokevirtual 71, 3) := by decide +kernel
theorem dL_price_13 : decode cL_price 13 = .ok (.lastore, 1) := by decide +kernel
theorem dL_price_14 : decode cL_price 14 = .ok (.goto 11, 3) := by decide +kernel
theorem dL_price_17 : decode cL_price 17 = .ok (.astore 8, 2) := by decide +kernel
theorem dL_price_19 : decode cL_price 19 = .ok (.iconst 1, 1) := by decide +kernel
theorem dL_price_2 : decode cL_price 2 = .ok (.iconst 0, 1) := by decide +kernel
theorem dL_price_20 : decode cL_price 20 = .ok (.ireturn, 1) := by decide +kernel
theorem dL_price_25 : decode cL_price 25 = .ok (.iconst 0, 1) := by decide +kernel
theorem dL_price_26 : decode cL_price 26 = .ok (.ireturn, 1) := by decide +kernel
theorem dL_price_3 : decode cL_price 3 = .ok (.aload_n 0, 1) := by decide +kernel
theorem dL_price_4 : decode cL_price 4 = .ok (.lload_n 1, 1) := by decide +kernel
theorem dL_price_5 : decode cL_price 5 = .ok (.lload_n 3, 1) := by decide +kernel
theorem dL_price_6 : decode cL_price 6 = .ok (.iload 5, 2) := by decide +kernel
theorem dL_price_8 : decode cL_price 8 = .ok (.iload 6, 2) := by decide +kernel
theorem dL_reserve_0 : decode cL_reserve 0 = .ok (.aload 7, 2) := by decide +kernel
theorem dL_reserve_11 : decode cL_reserve 11 = .ok (.invokevirtual 95, 3) := by decide +kernel
theorem dL_reserve_18 : decode cL_reserve 18 = .ok (.astore 8, 2) := by decide +kernel
theorem dL_reserve_2 : decode cL_reserve 2 = .ok (.iconst 0, 1) := by decide +kernel
theorem dL_reserve_20 : decode cL_reserve 20 = .ok (.iconst 1, 1) := by decide +kernel
theorem dL_reserve_21 : decode cL_reserve 21 = .ok (.ireturn, 1) := by decide +kernel
theorem dL_reserve_22 : decode cL_reserve 22 = .ok (.astore 8, 2) := by decide +kernel
theorem dL_reserve_24 : decode cL_reserve 24 = .ok (.iconst 2, 1) := by decide +kernel
theorem dL_reserve_25 : decode cL_reserve 25 = .ok (.ireturn, 1) := by decide +kernel
theorem dL_reserve_3 : decode cL_reserve 3 = .ok (.aload_n 0, 1) := by decide +kernel
theorem dL_reserve_4 : decode cL_reserve 4 = .ok (.iload_n 1, 1) := by decide +kernel
theorem dL_reserve_5 : decode cL_reserve 5 = .ok (.iload_n 2, 1) := by decide +kernel
theorem dL_reserve_6 : decode cL_reserve 6 = .ok (.lload_n 3, 1) := by decide +kernel
theorem dL_reserve_7 : decode cL_reserve 7 = .ok (.iload 5, 2) := by decide +kernel
theorem dL_reserve_9 : decode cL_reserve 9 = .ok (.iload 6, 2) := by decide +kernel
theorem dL_round_0 : decode cL_round 0 = .ok (.aload 6, 2) := by decide +kernel
theorem dL_round_11 : decode cL_round 11 = .ok (.lastore, 1) := by decide +kernel
theorem dL_round_12 : decode cL_round 12 = .ok (.goto 11, 3) := by decide +kernel
theorem dL_round_15 : decode cL_round 15 = .ok (.astore 7, 2) := by decide +kernel
theorem dL_round_17 : decode cL_round 17 = .ok (.iconst 1, 1) := by decide +kernel
theorem dL_round_18 : decode cL_round 18 = .ok (.ireturn, 1) := by decide +kernel
theorem dL_round_2 : decode cL_round 2 = .ok (.iconst 0, 1) := by decide +kernel
theorem dL_round_23 : decode cL_round 23 = .ok (.iconst 0, 1) := by decide +kernel
theorem dL_round_24 : decode cL_round 24 = .ok (.ireturn, 1) := by decide +kernel
theorem dL_round_3 : decode cL_round 3 = .ok (.aload_n 0, 1) := by decide +kernel
theorem dL_round_4 : decode cL_round 4 = .ok (.lload_n 1, 1) := by decide +kernel
theorem dL_round_5 : decode cL_round 5 = .ok (.lload_n 3, 1) := by decide +kernel
theorem dL_round_6 : decode cL_round 6 = .ok (.iload 5, 2) := by decide +kernel
theorem dL_round_8 : decode cL_round 8 = .ok (.invokevirtual 15, 3) := by decide +kernel
theorem dL_rowOf_0 : decode cL_rowOf 0 = .ok (.aload_n 3, 1) := by decide +kernel
theorem dL_rowOf_1 : decode cL_rowOf 1 = .ok (.iconst 0, 1) := by decide +kernel
theorem dL_rowOf_2 : decode cL_rowOf 2 = .ok (.aload_n 0, 1) := by decide +kernel
theorem dL_rowOf_20 : decode cL_rowOf 20 = .ok (.astore 4, 2) := by decide +kernel
theorem dL_rowOf_22 : decode cL_rowOf 22 = .ok (.iconst 3, 1) := by decide +kernel
theorem dL_rowOf_23 : decode cL_rowOf 23 = .ok (.ireturn, 1) := by decide +kernel
theorem dL_rowOf_3 : decode cL_rowOf 3 = .ok (.iload_n 1, 1) := by decide +kernel
theorem dL_rowOf_4 : decode cL_rowOf 4 = .ok (.iload_n 2, 1) := by decide +kernel
theorem dL_rowOf_5 : decode cL_rowOf 5 = .ok (.invokevirtual 63, 3) := by decide +kernel
theorem dL_rowYield_0 : decode cL_rowYield 0 = .ok (.aload_n 1, 1) := by decide +kernel
theorem dL_rowYield_1 : decode cL_rowYield 1 = .ok (.iconst 0, 1) := by decide +kernel
theorem dL_rowYield_11 : decode cL_rowYield 11 = .ok (.astore_n 2, 1) := by decide +kernel
theorem dL_rowYield_12 : decode cL_rowYield 12 = .ok (.iconst 1, 1) := by decide +kernel
theorem dL_rowYield_13 : decode cL_rowYield 13 = .ok (.ireturn, 1) := by decide +kernel
theorem dL_rowYield_2 : decode cL_rowYield 2 = .ok (.aload_n 0, 1) := by decide +kernel
theorem dL_rowYield_3 : decode cL_rowYield 3 = .ok (.invokevirtual 40, 3) := by decide +kernel
theorem dL_rows_0 : decode cL_rows 0 = .ok (.aload_n 1, 1) := by decide +kernel
theorem dL_rows_1 : decode cL_rows 1 = .ok (.iconst 0, 1) := by decide +kernel
theorem dL_rows_11 : decode cL_rows 11 = .ok (.astore_n 2, 1) := by decide +kernel
theorem dL_rows_12 : decode cL_rows 12 = .ok (.iconst 1, 1) := by decide +kernel
theorem dL_rows_13 : decode cL_rows 13 = .ok (.ireturn, 1) := by decide +kernel
theorem dL_rows_2 : decode cL_rows 2 = .ok (.aload_n 0, 1) := by decide +kernel
theorem dL_rows_3 : decode cL_rows 3 = .ok (.invokevirtual 60, 3) := by decide +kernel
theorem dL_setMode_0 : decode cL_setMode 0 = .ok (.aload_n 2, 1) := by decide +kernel
theorem dL_setMode_1 : decode cL_setMode 1 = .ok (.iconst 0, 1) := by decide +kernel
theorem dL_setMode_12 : decode cL_setMode 12 = .ok (.astore_n 3, 1) := by decide +kernel
theorem dL_setMode_13 : decode cL_setMode 13 = .ok (.iconst 1, 1) := by decide +kernel
theorem dL_setMode_14 : decode cL_setMode 14 = .ok (.ireturn, 1) := by decide +kernel
theorem dL_setMode_15 : decode cL_setMode 15 = .ok (.iconst 0, 1) := by decide +kernel
theorem dL_setMode_16 : decode cL_setMode 16 = .ok (.ireturn, 1) := by decide +kernel
theorem dL_setMode_2 : decode cL_setMode 2 = .ok (.aload_n 0, 1) := by decide +kernel
theorem dL_setMode_3 : decode cL_setMode 3 = .ok (.iload_n 1, 1) := by decide +kernel
theorem dL_setMode_4 : decode cL_setMode 4 = .ok (.invokevirtual 7, 3) := by decide +kernel
theorem dL_setMode_7 : decode cL_setMode 7 = .ok (.i2l, 1) := by decide +kernel
theorem dL_setMode_8 : decode cL_setMode 8 = .ok (.lastore, 1) := by decide +kernel
theorem dL_setMode_9 : decode cL_setMode 9 = .ok (.goto 6, 3) := by decide +kernel
theorem dL_signAt_0 : decode cL_signAt 0 = .ok (.aload_n 2, 1) := by decide +kernel
theorem dL_signAt_1 : decode cL_signAt 1 = .ok (.iconst 0, 1) := by decide +kernel
theorem dL_signAt_12 : decode cL_signAt 12 = .ok (.astore_n 3, 1) := by decide +kernel
theorem dL_signAt_13 : decode cL_signAt 13 = .ok (.iconst 1, 1) := by decide +kernel
theorem dL_signAt_14 : decode cL_signAt 14 = .ok (.ireturn, 1) := by decide +kernel
theorem dL_signAt_15 : decode cL_signAt 15 = .ok (.iconst 0, 1) := by decide +kernel
theorem dL_signAt_16 : decode cL_signAt 16 = .ok (.ireturn, 1) := by decide +kernel
theorem dL_signAt_2 : decode cL_signAt 2 = .ok (.aload_n 0, 1) := by decide +kernel
theorem dL_signAt_3 : decode cL_signAt 3 = .ok (.iload_n 1, 1) := by decide +kernel
theorem dL_signAt_4 : decode cL_signAt 4 = .ok (.invokevirtual 37, 3) := by decide +kernel
theorem dL_signAt_7 : decode cL_signAt 7 = .ok (.i2l, 1) := by decide +kernel
theorem dL_signAt_8 : decode cL_signAt 8 = .ok (.lastore, 1) := by decide +kernel
theorem dL_signAt_9 : decode cL_signAt 9 = .ok (.goto 6, 3) := by decide +kernel
theorem dL_step_0 : decode cL_step 0 = .ok (.aload 4, 2) := by decide +kernel
theorem dL_step_10 : decode cL_step 10 = .ok (.lastore, 1) := by decide +kernel
theorem dL_step_11 : decode cL_step 11 = .ok (.goto 11, 3) := by decide +kernel
theorem dL_step_14 : decode cL_step 14 = .ok (.astore 5, 2) := by decide +kernel
theorem dL_step_16 : decode cL_step 16 = .ok (.iconst 1, 1) := by decide +kernel
theorem dL_step_17 : decode cL_step 17 = .ok (.ireturn, 1) := by decide +kernel
theorem dL_step_2 : decode cL_step 2 = .ok (.iconst 0, 1) := by decide +kernel
theorem dL_step_22 : decode cL_step 22 = .ok (.iconst 0, 1) := by decide +kernel
theorem dL_step_23 : decode cL_step 23 = .ok (.ireturn, 1) := by decide +kernel
theorem dL_step_3 : decode cL_step 3 = .ok (.aload_n 0, 1) := by decide +kernel
theorem dL_step_4 : decode cL_step 4 = .ok (.lload_n 1, 1) := by decide +kernel
theorem dL_step_5 : decode cL_step 5 = .ok (.iload_n 3, 1) := by decide +kernel
theorem dL_step_6 : decode cL_step 6 = .ok (.invokevirtual 106, 3) := by decide +kernel
theorem dL_step_9 : decode cL_step 9 = .ok (.i2l, 1) := by decide +kernel
theorem dL_tax_0 : decode cL_tax 0 = .ok (.aload_n 3, 1) := by decide +kernel
theorem dL_tax_1 : decode cL_tax 1 = .ok (.iconst 0, 1) := by decide +kernel
theorem dL_tax_11 : decode cL_tax 11 = .ok (.astore 4, 2) := by decide +kernel
theorem dL_tax_13 : decode cL_tax 13 = .ok (.iconst 1, 1) := by decide +kernel
theorem dL_tax_14 : decode cL_tax 14 = .ok (.ireturn, 1) := by decide +kernel
theorem dL_tax_19 : decode cL_tax 19 = .ok (.iconst 0, 1) := by decide +kernel
theorem dL_tax_2 : decode cL_tax 2 = .ok (.aload_n 0, 1) := by decide +kernel
theorem dL_tax_20 : decode cL_tax 20 = .ok (.ireturn, 1) := by decide +kernel
theorem dL_tax_3 : decode cL_tax 3 = .ok (.lload_n 1, 1) := by decide +kernel
theorem dL_tax_4 : decode cL_tax 4 = .ok (.invokevirtual 110, 3) := by decide +kernel
theorem dL_tax_7 : decode cL_tax 7 = .ok (.lastore, 1) := by decide +kernel
theorem dL_tax_8 : decode cL_tax 8 = .ok (.goto 11, 3) := by decide +kernel
theorem dL_total_0 : decode cL_total 0 = .ok (.aload_n 2, 1) := by decide +kernel
theorem dL_total_1 : decode cL_total 1 = .ok (.iconst 0, 1) := by decide +kernel
theorem dL_total_14 : decode cL_total 14 = .ok (.astore_n 3, 1) := by decide +kernel
theorem dL_total_15 : decode cL_total 15 = .ok (.iconst 2, 1) := by decide +kernel
theorem dL_total_16 : decode cL_total 16 = .ok (.ireturn, 1) := by decide +kernel
theorem dL_total_2 : decode cL_total 2 = .ok (.aload_n 0, 1) := by decide +kernel
theorem dL_total_3 : decode cL_total 3 = .ok (.iload_n 1, 1) := by decide +kernel
theorem dL_total_4 : decode cL_total 4 = .ok (.invokevirtual 68, 3) := by decide +kernel
theorem dL_untaxed_0 : decode cL_untaxed 0 = .ok (.aload_n 3, 1) := by decide +kernel
theorem dL_untaxed_1 : decode cL_untaxed 1 = .ok (.iconst 0, 1) := by decide +kernel
theorem dL_untaxed_11 : decode cL_untaxed 11 = .ok (.astore 4, 2) := by decide +kernel
theorem dL_untaxed_13 : decode cL_untaxed 13 = .ok (.iconst 1, 1) := by decide +kernel
theorem dL_untaxed_14 : decode cL_untaxed 14 = .ok (.ireturn, 1) := by decide +kernel
theorem dL_untaxed_15 : decode cL_untaxed 15 = .ok (.iconst 0, 1) := by decide +kernel
theorem dL_untaxed_16 : decode cL_untaxed 16 = .ok (.ireturn, 1) := by decide +kernel
theorem dL_untaxed_2 : decode cL_untaxed 2 = .ok (.aload_n 0, 1) := by decide +kernel
theorem dL_untaxed_3 : decode cL_untaxed 3 = .ok (.lload_n 1, 1) := by decide +kernel
theorem dL_untaxed_4 : decode cL_untaxed 4 = .ok (.invokevirtual 114, 3) := by decide +kernel
theorem dL_untaxed_7 : decode cL_untaxed 7 = .ok (.lastore, 1) := by decide +kernel
theorem dL_untaxed_8 : decode cL_untaxed 8 = .ok (.goto 7, 3) := by decide +kernel
theorem dL_weigh_0 : decode cL_weigh 0 = .ok (.aload_n 2, 1) := by decide +kernel
theorem dL_weigh_1 : decode cL_weigh 1 = .ok (.iconst 0, 1) := by decide +kernel
theorem dL_weigh_12 : decode cL_weigh 12 = .ok (.astore_n 3, 1) := by decide +kernel
theorem dL_weigh_13 : decode cL_weigh 13 = .ok (.iconst 1, 1) := by decide +kernel
theorem dL_weigh_14 : decode cL_weigh 14 = .ok (.ireturn, 1) := by decide +kernel
theorem dL_weigh_18 : decode cL_weigh 18 = .ok (.iconst 0, 1) := by decide +kernel
theorem dL_weigh_19 : decode cL_weigh 19 = .ok (.ireturn, 1) := by decide +kernel
theorem dL_weigh_2 : decode cL_weigh 2 = .ok (.aload_n 0, 1) := by decide +kernel
theorem dL_weigh_3 : decode cL_weigh 3 = .ok (.iload_n 1, 1) := by decide +kernel
theorem dL_weigh_4 : decode cL_weigh 4 = .ok (.invokevirtual 99, 3) := by decide +kernel
theorem dL_weigh_7 : decode cL_weigh 7 = .ok (.i2l, 1) := by decide +kernel
theorem dL_weigh_8 : decode cL_weigh 8 = .ok (.lastore, 1) := by decide +kernel
theorem dL_weigh_9 : decode cL_weigh 9 = .ok (.goto 9, 3) := by decide +kernel
theorem dL_worth_0 : decode cL_worth 0 = .ok (.aload_n 3, 1) := by decide +kernel
theorem dL_worth_1 : decode cL_worth 1 = .ok (.iconst 0, 1) := by decide +kernel
theorem dL_worth_12 : decode cL_worth 12 = .ok (.astore 4, 2) := by decide +kernel
theorem dL_worth_14 : decode cL_worth 14 = .ok (.iconst 1, 1) := by decide +kernel
theorem dL_worth_15 : decode cL_worth 15 = .ok (.ireturn, 1) := by decide +kernel
theorem dL_worth_2 : decode cL_worth 2 = .ok (.aload_n 0, 1) := by decide +kernel
theorem dL_worth_20 : decode cL_worth 20 = .ok (.iconst 0, 1) := by decide +kernel
theorem dL_worth_21 : decode cL_worth 21 = .ok (.ireturn, 1) := by decide +kernel
theorem dL_worth_3 : decode cL_worth 3 = .ok (.iload_n 1, 1) := by decide +kernel
theorem dL_worth_4 : decode cL_worth 4 = .ok (.iload_n 2, 1) := by decide +kernel
theorem dL_worth_5 : decode cL_worth 5 = .ok (.invokevirtual 33, 3) := by decide +kernel
theorem dL_worth_8 : decode cL_worth 8 = .ok (.lastore, 1) := by decide +kernel
theorem dL_worth_9 : decode cL_worth 9 = .ok (.goto 11, 3) := by decide +kernel
set_option maxRecDepth 20000 in
theorem ggL_accrued_X9_accrued : GoodIn wsL_accrued wsX9_accrued := goodIn_ca (goodIn_ca (goodIn_r _ [7, 8, 9, 10, 11, 12, 6, 13, 14, 15, 16, 17, 18, 19, 20, 21, 22, 23, 24, 25, 26, 27, 28, 29, 30, 31, 32, 33, 34, 35, 36, 37, 38, 39, 40, 41, 42, 43, 44, 45, 46, 47, 48, 49, 50, 51, 52, 53] (by decide +kernel) (by decide +kernel)) (goodIn_sub (fun _ h => List.mem_cons_of_mem _ (List.mem_append_left _ (List.mem_append_right _ h))) (by decide +kernel))) (goodIn_sub (fun _ h => List.mem_cons_of_mem _ (List.mem_append_right _ h)) (by decide +kernel))
set_option maxRecDepth 20000 in
theorem gL_accrued_X9_accrued : GoodIn wsL_accrued (wsV RL 79 RX9 yX9_accrued wsX9_accrued) := goodIn_app (goodIn_of _ (by decide +kernel)) ggL_accrued_X9_accrued
set_option maxRecDepth 20000 in
theorem ggL_amount_X9_amount : GoodIn wsL_amount wsX9_amount := goodIn_ca (goodIn_r _ [6, 7, 8, 9, 10, 5, 11, 12, 13, 14, 15, 16, 17, 18, 19, 20, 21, 22, 23, 24, 25, 26, 27, 28, 29, 30, 31, 32, 33] (by decide +kernel) (by decide +kernel)) (goodIn_sub (fun _ h => List.mem_cons_of_mem _ (List.mem_append_right _ h)) (by decide +kernel))
set_option maxRecDepth 20000 in
theorem gL_amount_X9_amount : GoodIn wsL_amount (wsV RL 29 RX9 yX9_amount wsX9_amount) := goodIn_app (goodIn_of _ (by decide +kernel)) ggL_amount_X9_amount
set_option maxRecDepth 20000 in
theorem ggL_bondYield_X9_bondYield : GoodIn wsL_bondYield wsX9_bondYield := goodIn_ca (goodIn_r _ [6, 7, 8, 9, 10, 5, 11, 12, 13, 14, 15, 16, 17, 18, 19, 20, 21, 22, 23, 24, 25, 26, 27, 28, 29, 30, 31, 32, 33, 34, 35, 36, 37, 38, 39, 40, 41, 42, 43, 44, 45, 46, 47, 48, 49, 50, 51, 52, 53, 54, 55, 56, 57, 58, 59, 60, 61, 62, 63, 64, 65, 66, 67, 68, 69, 70, 71, 72, 73, 74, 75, 76, 77, 78, 79, 80, 81, 82, 83, 84, 85, 86, 87, 88, 89, 90, 91, 92, 93, 94, 95, 96, 97, 98, 99, 100, 101, 102, 103, 104, 105, 106, 107, 108, 109, 110, 111, 112, 113, 114, 115, 116, 117, 118, 119, 120, 121, 122, 123, 124, 125, 126, 127, 128, 129, 130, 131, 132, 133, 134, 135, 136, 137, 138, 139, 140, 141, 142, 143, 144, 145, 146] (by decide +kernel) (by decide +kernel)) (goodIn_sub (fun _ h => List.mem_cons_of_mem _ (List.mem_append_right _ h)) (by decide +kernel))
set_option maxRecDepth 20000 in
theorem gL_bondYield_X9_bondYield : GoodIn wsL_bondYield (wsV RL 75 RX9 yX9_bondYield wsX9_bondYield) := goodIn_app (goodIn_of _ (by decide +kernel)) ggL_bondYield_X9_bondYield
set_option maxRecDepth 20000 in
theorem ggL_change_X9_change : GoodIn wsL_change wsX9_change := goodIn_ca (goodIn_ca (goodIn_r _ [7, 8, 9, 10, 11, 12, 13, 14, 15, 16, 6, 17, 18, 19, 20, 21, 22, 23, 24, 25, 26, 27, 28, 29, 30, 31, 32, 33, 34, 35, 36, 37, 38, 39, 40, 41, 42, 43, 44, 45, 46, 47, 48, 49, 50, 51, 52, 53, 54, 55, 56, 57, 58, 59, 60, 61, 62, 63, 64, 65, 66, 67, 68, 69, 70, 71, 72, 73, 74, 75, 76, 77, 78, 79, 80, 81, 82, 83, 84, 85, 86, 87, 88, 89, 90, 91, 92, 93, 94, 95, 96, 97, 98, 99, 100, 101, 102, 103, 104, 105, 106, 107, 108, 109, 110, 111, 112, 113, 114, 115, 116, 117, 118, 119, 120, 121, 122, 123, 124, 125, 126, 127, 128, 129, 130, 131, 132, 133, 134, 135, 136, 137, 138, 139, 140, 141, 142, 143, 144, 145, 146, 147, 148, 149, 150, 151, 152, 153, 154, 155, 156, 157, 158, 159, 160, 161, 162, 163, 164, 165, 166, 167, 168, 169, 170, 171, 172, 173, 174, 175, 176, 177, 178, 179, 180, 181, 182, 183, 184, 185, 186, 187, 188, 189, 190, 191, 192, 193, 194, 195, 196, 197, 198, 199, 200, 201, 202, 203, 204, 205, 206, 207, 208, 209, 210, 211, 212, 213, 214, 215, 216, 217, 218, 219, 220, 221, 222, 223, 224, 225, 226, 227, 228, 229, 230, 231, 232] (by decide +kernel) (by decide +kernel)) (goodIn_sub (fun _ h => List.mem_cons_of_mem _ (List.mem_append_left _ (List.mem_append_right _ h))) (by decide +kernel))) (goodIn_sub (fun _ h => List.mem_cons_of_mem _ (List.mem_append_right _ h)) (by decide +kernel))
set_option maxRecDepth 20000 in
theorem gL_change_X9_change : GoodIn wsL_change (wsV RL 52 RX9 yX9_change wsX9_change) := goodIn_app (goodIn_of _ (by decide +kernel)) ggL_change_X9_change
set_option maxRecDepth 20000 in
theorem ggL_deathWorth_X9_deathWorth : GoodIn wsL_deathWorth wsX9_deathWorth := goodIn_ca (goodIn_ca (goodIn_ca (goodIn_r _ [8, 9, 10, 11, 12, 13, 7, 14, 15, 16, 17, 18, 19, 20, 21, 22, 23, 24, 25, 26, 27, 28, 29, 30, 31, 32, 33, 34, 35, 36, 37, 38, 39, 40, 41, 42, 43, 44, 45, 46, 47, 48, 49, 50, 51, 52, 53, 54, 55, 56, 57, 58, 59, 60, 61, 62, 63, 64, 65, 66, 67, 68, 69, 70, 71, 72, 73, 74, 75, 76, 77, 78, 79, 80, 81, 82, 83, 84, 85, 86, 87, 88, 89, 90, 91, 92, 93, 94, 95, 96, 97, 98, 99, 100, 101, 102, 103, 104, 105, 106, 107, 108, 109, 110, 111, 112, 113, 114, 115, 116, 117, 118, 119, 120, 121, 122, 123, 124, 125, 126, 127, 128, 129, 130, 131, 132, 133, 134, 135, 136, 137, 138, 139, 140, 141, 142, 143, 144, 145, 146, 147, 148, 149, 150, 151, 152, 153, 154, 155, 156, 157, 158, 159, 160, 161, 162, 163, 164, 165, 166, 167, 168, 169, 170, 171, 172, 173, 174, 175, 176, 177, 178, 179, 180, 181, 182, 183, 184, 185, 186, 187, 188, 189, 190, 191, 192, 193, 194, 195, 196, 197, 198, 199, 200, 201] (by decide +kernel) (by decide +kernel)) (goodIn_sub (fun _ h => List.mem_cons_of_mem _ (List.mem_append_left _ (List.mem_append_left _ (List.mem_append_right _ h)))) (by decide +kernel))) (goodIn_sub (fun _ h => List.mem_cons_of_mem _ (List.mem_append_left _ (List.mem_append_right _ h))) (by decide +kernel))) (goodIn_sub (fun _ h => List.mem_cons_of_mem _ (List.mem_append_right _ h)) (by decide +kernel))
set_option maxRecDepth 20000 in
theorem gL_deathWorth_X9_deathWorth : GoodIn wsL_deathWorth (wsV RL 89 RX9 yX9_deathWorth wsX9_deathWorth) := goodIn_app (goodIn_of _ (by decide +kernel)) ggL_deathWorth_X9_deathWorth
set_option maxRecDepth 20000 in
theorem ggL_early_X9_early : GoodIn wsL_early wsX9_early := goodIn_ca (goodIn_ca (goodIn_r _ [7, 8, 9, 10, 11, 12, 13, 14, 15, 16, 6, 17, 18, 19, 20, 21, 22, 23, 24, 25, 26, 27, 28, 29, 30, 31, 32, 33, 34, 35, 36, 37, 38, 39, 40, 41, 42, 43, 44, 45, 46, 47, 48, 49, 50, 51, 52, 53, 54, 55, 56, 57, 58, 59, 60, 61, 62, 63, 64, 65, 66, 67, 68, 69, 70, 71, 72, 73, 74, 75, 76, 77, 78, 79, 80, 81, 82, 83, 84, 85, 86, 87, 88, 89, 90, 91, 92, 93, 94, 95, 96, 97, 98, 99, 100, 101, 102, 103, 104, 105, 106, 107, 108, 109, 110, 111, 112, 113, 114, 115, 116, 117, 118, 119, 120, 121, 122, 123, 124, 125, 126, 127, 128, 129, 130, 131, 132, 133, 134, 135, 136, 137, 138, 139, 140, 141, 142, 143, 144, 145, 146, 147, 148, 149, 150, 151, 152, 153, 154, 155, 156, 157, 158, 159, 160, 161, 162, 163, 164, 165, 166, 167, 168, 169, 170, 171, 172, 173, 174, 175, 176, 177, 178, 179, 180, 181, 182, 183, 184, 185, 186, 187, 188, 189, 190, 191, 192, 193, 194, 195, 196, 197, 198, 199, 200, 201, 202, 203, 204, 205, 206, 207, 208, 209, 210, 211, 212, 213, 214, 215, 216, 217, 218, 219, 220, 221, 222, 223, 224, 225, 226, 227, 228] (by decide +kernel) (by decide +kernel)) (goodIn_sub (fun _ h => List.mem_cons_of_mem _ (List.mem_append_left _ (List.mem_append_right _ h))) (by decide +kernel))) (goodIn_sub (fun _ h => List.mem_cons_of_mem _ (List.mem_append_right _ h)) (by decide +kernel))
set_option maxRecDepth 20000 in
theorem gL_early_X9_early : GoodIn wsL_early (wsV RL 56 RX9 yX9_early wsX9_early) := goodIn_app (goodIn_of _ (by decide +kernel)) ggL_early_X9_early
set_option maxRecDepth 20000 in
theorem ggL_errors_X9_errors : GoodIn wsL_errors wsX9_errors := goodIn_ca (goodIn_r _ [6, 7, 8, 9, 10, 11, 12, 13, 5, 14, 15, 16, 17, 18, 19, 20, 21, 22, 23, 24, 25, 26, 27, 28, 29, 30, 31, 32, 33, 34, 35, 36, 37, 38, 39, 40, 41, 42, 43, 44, 45, 46, 47, 48, 49, 50, 51, 52, 53, 54, 55, 56, 57, 58, 59, 60, 61, 62, 63, 64, 65, 66, 67, 68, 69, 70, 71, 72, 73, 74, 75, 76, 77, 78, 79, 80, 81, 82, 83, 84, 85, 86, 87, 88, 89, 90, 91, 92, 93, 94, 95, 96, 97, 98, 99, 100, 101, 102, 103, 104, 105, 106, 107, 108, 109, 110, 111, 112, 113, 114, 115, 116, 117, 118, 119, 120, 121, 122, 123, 124, 125, 126, 127, 128, 129, 130, 131, 132, 133, 134, 135, 136, 137, 138, 139, 140, 141, 142, 143, 144, 145, 146, 147, 148, 149, 150, 151, 152, 153, 154, 155, 156, 157, 158, 159, 160, 161, 162, 163, 164, 165, 166, 167, 168, 169, 170, 171, 172, 173, 174, 175, 176, 177, 178, 179, 180, 181, 182, 183, 184, 185, 186, 187, 188, 189, 190, 191, 192, 193, 194, 195, 196, 197, 198, 199, 200, 201, 202, 203, 204, 205, 206, 207, 208, 209, 210, 211, 212, 213, 214, 215, 216] (by decide +kernel) (by decide +kernel)) (goodIn_sub (fun _ h => List.mem_cons_of_mem _ (List.mem_append_right _ h)) (by decide +kernel))
set_option maxRecDepth 20000 in
theorem gL_errors_X9_errors : GoodIn wsL_errors (wsV RL 117 RX9 yX9_errors wsX9_errors) := goodIn_app (goodIn_of _ (by decide +kernel)) ggL_errors_X9_errors
set_option maxRecDepth 20000 in
theorem ggL_holiday_X9_holiday : GoodIn wsL_holiday wsX9_holiday := goodIn_ca (goodIn_ca (goodIn_r _ [7, 8, 9, 10, 11, 12, 13, 14, 6, 15, 16, 17, 18, 19, 20, 21, 22, 23, 24, 25, 26, 27, 28, 29, 30, 31, 32, 33, 34, 35, 36, 37, 38, 39, 40, 41, 42, 43, 44, 45, 46, 47, 48, 49, 50, 51, 52, 53, 54, 55, 56, 57, 58, 59, 60, 61, 62, 63, 64, 65, 66, 67, 68, 69, 70, 71, 72, 73, 74, 75, 76, 77, 78, 79, 80, 81, 82, 83, 84, 85, 86, 87, 88, 89, 90, 91, 92, 93, 94, 95, 96, 97, 98, 99, 100, 101, 102, 103, 104, 105, 106, 107, 108, 109, 110, 111, 112, 113, 114, 115, 116, 117, 118, 119, 120, 121, 122, 123, 124, 125, 126, 127, 128, 129, 130, 131, 132, 133, 134, 135, 136, 137, 138, 139, 140, 141, 142, 143, 144, 145, 146, 147, 148, 149, 150, 151, 152, 153, 154, 155, 156, 157, 158, 159, 160, 161, 162, 163, 164, 165, 166, 167, 168, 169, 170, 171, 172, 173, 174, 175, 176, 177, 178, 179, 180, 181, 182, 183, 184, 185, 186, 187, 188, 189, 190, 191, 192, 193, 194, 195, 196, 197, 198, 199, 200, 201, 202, 203, 204, 205, 206, 207, 208, 209, 210, 211, 212, 213, 214, 215, 216, 217, 218, 219, 220, 221, 222, 223, 224, 225, 226] (by decide +kernel) (by decide +kernel)) (goodIn_sub (fun _ h => List.mem_cons_of_mem _ (List.mem_append_left _ (List.mem_append_right _ h))) (by decide +kernel))) (goodIn_sub (fun _ h => List.mem_cons_of_mem _ (List.mem_append_right _ h)) (by decide +kernel))
set_option maxRecDepth 20000 in
theorem gL_holiday_X9_holiday : GoodIn wsL_holiday (wsV RL 48 RX9 yX9_holiday wsX9_holiday) := goodIn_app (goodIn_of _ (by decide +kernel)) ggL_holiday_X9_holiday
set_option maxRecDepth 20000 in
theorem ggL_lend_X9_lend : GoodIn wsL_lend wsX9_lend := goodIn_ca (goodIn_ca (goodIn_r _ [7, 8, 9, 10, 11, 12, 13, 14, 6, 15, 16, 17, 18, 19, 20, 21, 22, 23, 24, 25, 26, 27, 28, 29, 30, 31, 32, 33, 34, 35, 36, 37, 38, 39, 40, 41, 42, 43, 44, 45, 46, 47, 48, 49, 50, 51, 52, 53, 54, 55, 56, 57, 58, 59, 60, 61, 62, 63, 64, 65, 66, 67, 68, 69, 70, 71, 72, 73, 74, 75, 76, 77, 78, 79, 80, 81, 82, 83, 84, 85, 86, 87, 88, 89, 90, 91, 92, 93, 94, 95, 96, 97, 98, 99, 100, 101, 102, 103, 104, 105, 106, 107, 108, 109, 110, 111, 112, 113, 114, 115, 116, 117, 118, 119, 120, 121, 122, 123, 124, 125, 126, 127, 128, 129, 130, 131, 132, 133, 134, 135, 136, 137, 138, 139, 140, 141, 142, 143, 144, 145, 146, 147, 148, 149, 150, 151, 152, 153, 154, 155, 156, 157, 158, 159, 160, 161, 162, 163, 164, 165, 166, 167, 168, 169, 170, 171, 172, 173, 174, 175, 176, 177, 178, 179, 180, 181, 182, 183, 184, 185, 186, 187, 188, 189, 190, 191, 192, 193, 194, 195, 196, 197, 198, 199, 200, 201, 202, 203, 204, 205, 206, 207, 208, 209, 210, 211, 212, 213, 214, 215, 216, 217, 218, 219, 220, 221, 222, 223, 224, 225, 226] (by decide +kernel) (by decide +kernel)) (goodIn_sub (fun _ h => List.mem_cons_of_mem _ (List.mem_append_left _ (List.mem_append_right _ h))) (by decide +kernel))) (goodIn_sub (fun _ h => List.mem_cons_of_mem _ (List.mem_append_right _ h)) (by decide +kernel))
set_option maxRecDepth 20000 in
theorem gL_lend_X9_lend : GoodIn wsL_lend (wsV RL 44 RX9 yX9_lend wsX9_lend) := goodIn_app (goodIn_of _ (by decide +kernel)) ggL_lend_X9_lend
set_option maxRecDepth 20000 in
theorem ggL_lifeWorth_X9_lifeWorth : GoodIn wsL_lifeWorth wsX9_lifeWorth := goodIn_ca (goodIn_ca (goodIn_ca (goodIn_r _ [8, 9, 10, 11, 12, 13, 7, 14, 15, 16, 17, 18, 19, 20, 21, 22, 23, 24, 25, 26, 27, 28, 29, 30, 31, 32, 33, 34, 35, 36, 37, 38, 39, 40, 41, 42, 43, 44, 45, 46, 47, 48, 49, 50, 51, 52, 53, 54, 55, 56, 57, 58, 59, 60, 61, 62, 63, 64, 65, 66, 67, 68, 69, 70, 71, 72, 73, 74, 75, 76, 77, 78, 79, 80, 81, 82, 83, 84, 85, 86, 87, 88, 89, 90, 91, 92, 93, 94, 95, 96, 97, 98, 99, 100, 101, 102, 103, 104, 105, 106, 107, 108, 109, 110, 111, 112, 113, 114, 115, 116, 117, 118, 119, 120, 121, 122, 123, 124, 125, 126, 127, 128, 129, 130, 131, 132, 133, 134, 135, 136, 137, 138, 139, 140, 141, 142, 143, 144, 145, 146, 147, 148, 149, 150, 151, 152, 153, 154, 155, 156, 157, 158, 159, 160, 161, 162, 163, 164, 165, 166, 167, 168, 169, 170, 171, 172, 173, 174, 175, 176, 177, 178, 179, 180, 181, 182, 183, 184, 185, 186, 187, 188, 189, 190, 191, 192, 193, 194, 195, 196, 197, 198, 199, 200, 201] (by decide +kernel) (by decide +kernel)) (goodIn_sub (fun _ h => List.mem_cons_of_mem _ (List.mem_append_left _ (List.mem_append_left _ (List.mem_append_right _ h)))) (by decide +kernel))) (goodIn_sub (fun _ h => List.mem_cons_of_mem _ (List.mem_append_left _ (List.mem_append_right _ h))) (by decide +kernel))) (goodIn_sub (fun _ h => List.mem_cons_of_mem _ (List.mem_append_right _ h)) (by decide +kernel))
set_option maxRecDepth 20000 in
theorem gL_lifeWorth_X9_lifeWorth : GoodIn wsL_lifeWorth (wsV RL 85 RX9 yX9_lifeWorth wsX9_lifeWorth) := goodIn_app (goodIn_of _ (by decide +kernel)) ggL_lifeWorth_X9_lifeWorth
set_option maxRecDepth 20000 in
theorem ggL_live_X9_live : GoodIn wsL_live wsX9_live := goodIn_ca (goodIn_ca (goodIn_r _ [7, 8, 9, 10, 11, 12, 13, 14, 15, 16, 17, 18, 19, 6, 20, 21, 22, 23, 24, 25, 26, 27, 28, 29, 30, 31, 32, 33, 34, 35, 36, 37, 38, 39, 40, 41, 42, 43, 44, 45, 46] (by decide +kernel) (by decide +kernel)) (goodIn_sub (fun _ h => List.mem_cons_of_mem _ (List.mem_append_left _ (List.mem_append_right _ h))) (by decide +kernel))) (goodIn_sub (fun _ h => List.mem_cons_of_mem _ (List.mem_append_right _ h)) (by decide +kernel))
set_option maxRecDepth 20000 in
theorem gL_live_X9_live : GoodIn wsL_live (wsV RL 82 RX9 yX9_live wsX9_live) := goodIn_app (goodIn_of _ (by decide +kernel)) ggL_live_X9_live
set_option maxRecDepth 20000 in
theorem ggL_part_X9_part : GoodIn wsL_part wsX9_part := goodIn_ca (goodIn_ca (goodIn_r _ [7, 8, 9, 10, 11, 12, 6, 13, 14, 15, 16, 17, 18, 19, 20, 21, 22, 23, 24, 25, 26, 27, 28, 29, 30, 31, 32, 33, 34, 35, 36, 37, 38, 39, 40, 41, 42, 43, 44, 45] (by decide +kernel) (by decide +kernel)) (goodIn_sub (fun _ h => List.mem_cons_of_mem _ (List.mem_append_left _ (List.mem_append_right _ h))) (by decide +kernel))) (goodIn_sub (fun _ h => List.mem_cons_of_mem _ (List.mem_append_right _ h)) (by decide +kernel))
set_option maxRecDepth 20000 in
theorem gL_part_X9_part : GoodIn wsL_part (wsV RL 102 RX9 yX9_part wsX9_part) := goodIn_app (goodIn_of _ (by decide +kernel)) ggL_part_X9_part
set_option maxRecDepth 20000 in
theorem ggL_payMany_X9_payMany : GoodIn wsL_payMany wsX9_payMany := goodIn_ca (goodIn_ca (goodIn_r _ [7, 8, 9, 10, 11, 12, 13, 14, 15, 16, 6, 17, 18, 19, 20, 21, 22, 23, 24, 25, 26, 27, 28, 29, 30, 31, 32, 33, 34, 35, 36, 37, 38, 39, 40, 41, 42, 43, 44, 45, 46, 47, 48, 49] (by decide +kernel) (by decide +kernel)) (goodIn_sub (fun _ h => List.mem_cons_of_mem _ (List.mem_append_left _ (List.mem_append_right _ h))) (by decide +kernel))) (goodIn_sub (fun _ h => List.mem_cons_of_mem _ (List.mem_append_right _ h)) (by decide +kernel))
set_option maxRecDepth 20000 in
theorem gL_payMany_X9_payMany : GoodIn wsL_payMany (wsV RL 25 RX9 yX9_payMany wsX9_payMany) := goodIn_app (goodIn_of _ (by decide +kernel)) ggL_payMany_X9_payMany
set_option maxRecDepth 20000 in
theorem ggL_pay_X9_pay : GoodIn wsL_pay wsX9_pay := goodIn_ca (goodIn_ca (goodIn_r _ [7, 8, 9, 10, 11, 12, 13, 6, 14, 15, 16, 17, 18, 19, 20, 21, 22, 23, 24, 25, 26, 27, 28, 29, 30, 31, 32, 33, 34, 35, 36, 37, 38, 39, 40, 41, 42, 43, 44, 45, 46] (by decide +kernel) (by decide +kernel)) (goodIn_sub (fun _ h => List.mem_cons_of_mem _ (List.mem_append_left _ (List.mem_append_right _ h))) (by decide +kernel))) (goodIn_sub (fun _ h => List.mem_cons_of_mem _ (List.mem_append_right _ h)) (by decide +kernel))
set_option maxRecDepth 20000 in
theorem gL_pay_X9_pay : GoodIn wsL_pay (wsV RL 21 RX9 yX9_pay wsX9_pay) := goodIn_app (goodIn_of _ (by decide +kernel)) ggL_pay_X9_pay
set_option maxRecDepth 20000 in
theorem ggL_premium_X9_premium : GoodIn wsL_premium wsX9_premium := goodIn_ca (goodIn_ca (goodIn_ca (goodIn_r _ [8, 9, 10, 11, 12, 13, 7, 14, 15, 16, 17, 18, 19, 20, 21, 22, 23, 24, 25, 26, 27, 28, 29, 30, 31, 32, 33, 34, 35, 36, 37, 38, 39, 40, 41, 42, 43, 44, 45, 46, 47, 48, 49, 50, 51, 52, 53, 54, 55, 56, 57, 58, 59, 60, 61, 62, 63, 64, 65, 66, 67, 68, 69, 70, 71, 72, 73, 74, 75, 76, 77, 78, 79, 80, 81, 82, 83, 84, 85, 86, 87, 88, 89, 90, 91, 92, 93, 94, 95, 96, 97, 98, 99, 100, 101, 102, 103, 104, 105, 106, 107, 108, 109, 110, 111, 112, 113, 114, 115, 116, 117, 118, 119, 120, 121, 122, 123, 124, 125, 126, 127, 128, 129, 130, 131, 132, 133, 134, 135, 136, 137, 138, 139, 140, 141, 142, 143, 144, 145, 146, 147, 148, 149, 150, 151, 152, 153, 154, 155, 156, 157, 158, 159, 160, 161, 162, 163, 164, 165, 166, 167, 168, 169, 170, 171, 172, 173, 174, 175, 176, 177, 178, 179, 180, 181, 182, 183, 184, 185, 186, 187, 188, 189, 190, 191, 192, 193, 194, 195, 196, 197] (by decide +kernel) (by decide +kernel)) (goodIn_sub (fun _ h => List.mem_cons_of_mem _ (List.mem_append_left _ (List.mem_append_left _ (List.mem_append_right _ h)))) (by decide +kernel))) (goodIn_sub (fun _ h => List.mem_cons_of_mem _ (List.mem_append_left _ (List.mem_append_right _ h))) (by decide +kernel))) (goodIn_sub (fun _ h => List.mem_cons_of_mem _ (List.mem_append_right _ h)) (by decide +kernel))
set_option maxRecDepth 20000 in
theorem gL_premium_X9_premium : GoodIn wsL_premium (wsV RL 92 RX9 yX9_premium wsX9_premium) := goodIn_app (goodIn_of _ (by decide +kernel)) ggL_premium_X9_premium
set_option maxRecDepth 20000 in
theorem ggL_price_X9_price : GoodIn wsL_price wsX9_price := goodIn_ca (goodIn_ca (goodIn_r _ [7, 8, 9, 10, 11, 6, 12, 13, 14, 15, 16, 17, 18, 19, 20, 21, 22, 23, 24, 25, 26, 27, 28, 29, 30, 31, 32, 33, 34, 35, 36, 37, 38, 39, 40, 41, 42, 43, 44, 45, 46, 47, 48, 49, 50, 51, 52, 53, 54, 55, 56, 57, 58, 59, 60, 61, 62, 63, 64, 65, 66, 67, 68, 69, 70, 71, 72, 73, 74, 75, 76, 77, 78, 79, 80, 81, 82, 83, 84, 85, 86, 87, 88, 89, 90, 91, 92, 93, 94, 95, 96, 97, 98, 99, 100, 101, 102, 103, 104, 105, 106, 107, 108, 109, 110, 111, 112, 113, 114, 115, 116, 117, 118, 119, 120, 121, 122, 123, 124, 125, 126, 127, 128, 129, 130, 131, 132, 133, 134, 135, 136, 137, 138, 139, 140, 141, 142, 143, 144, 145, 146, 147, 148, 149, 150, 151, 152, 153, 154, 155, 156, 157, 158, 159, 160, 161, 162, 163, 164, 165, 166, 167, 168, 169, 170, 171, 172, 173, 174, 175, 176, 177, 178, 179, 180, 181, 182, 183, 184, 185, 186, 187] (by decide +kernel) (by decide +kernel)) (goodIn_sub (fun _ h => List.mem_cons_of_mem _ (List.mem_append_left _ (List.mem_append_right _ h))) (by decide +kernel))) (goodIn_sub (fun _ h => List.mem_cons_of_mem _ (List.mem_append_right _ h)) (by decide +kernel))
set_option maxRecDepth 20000 in
theorem gL_price_X9_price : GoodIn wsL_price (wsV RL 71 RX9 yX9_price wsX9_price) := goodIn_app (goodIn_of _ (by decide +kernel)) ggL_price_X9_price
set_option maxRecDepth 20000 in
theorem ggL_reserve_X9_reserve : GoodIn wsL_reserve wsX9_reserve := goodIn_ca (goodIn_ca (goodIn_ca (goodIn_r _ [8, 9, 10, 11, 12, 13, 7, 14, 15, 16, 17, 18, 19, 20, 21, 22, 23, 24, 25, 26, 27, 28, 29, 30, 31, 32, 33, 34, 35, 36, 37, 38, 39, 40, 41, 42, 43, 44, 45, 46, 47, 48, 49, 50, 51, 52, 53, 54, 55, 56, 57, 58, 59, 60, 61, 62, 63, 64, 65, 66, 67, 68, 69, 70, 71, 72, 73, 74, 75, 76, 77, 78, 79, 80, 81, 82, 83, 84, 85, 86, 87, 88, 89, 90, 91, 92, 93, 94, 95, 96, 97, 98, 99, 100, 101, 102, 103, 104, 105, 106, 107, 108, 109, 110, 111, 112, 113, 114, 115, 116, 117, 118, 119, 120, 121, 122, 123, 124, 125, 126, 127, 128, 129, 130, 131, 132, 133, 134, 135, 136, 137, 138, 139, 140, 141, 142, 143, 144, 145, 146, 147, 148, 149, 150, 151, 152, 153, 154, 155, 156, 157, 158, 159, 160, 161, 162, 163, 164, 165, 166, 167, 168, 169, 170, 171, 172, 173, 174, 175, 176, 177, 178, 179, 180, 181, 182, 183, 184, 185, 186, 187, 188, 189, 190, 191, 192, 193, 194, 195, 196, 197, 198, 199] (by decide +kernel) (by decide +kernel)) (goodIn_sub (fun _ h => List.mem_cons_of_mem _ (List.mem_append_left _ (List.mem_append_left _ (List.mem_append_right _ h)))) (by decide +kernel))) (goodIn_sub (fun _ h => List.mem_cons_of_mem _ (List.mem_append_left _ (List.mem_append_right _ h))) (by decide +kernel))) (goodIn_sub (fun _ h => List.mem_cons_of_mem _ (List.mem_append_right _ h)) (by decide +kernel))
set_option maxRecDepth 20000 in
theorem gL_reserve_X9_reserve : GoodIn wsL_reserve (wsV RL 95 RX9 yX9_reserve wsX9_reserve) := goodIn_app (goodIn_of _ (by decide +kernel)) ggL_reserve_X9_reserve
set_option maxRecDepth 20000 in
theorem ggL_round_X9_round : GoodIn wsL_round wsX9_round := goodIn_ca (goodIn_ca (goodIn_r _ [7, 8, 9, 10, 11, 12, 13, 14, 6, 15, 16, 17, 18, 19, 20, 21, 22, 23, 24, 25, 26, 27, 28, 29, 30, 31, 32, 33, 34, 35, 36, 37, 38, 39, 40, 41, 42, 43, 44, 45, 46, 47, 48, 49, 50, 51, 52, 53, 54, 55] (by decide +kernel) (by decide +kernel)) (goodIn_sub (fun _ h => List.mem_cons_of_mem _ (List.mem_append_left _ (List.mem_append_right _ h))) (by decide +kernel))) (goodIn_sub (fun _ h => List.mem_cons_of_mem _ (List.mem_append_right _ h)) (by decide +kernel))
set_option maxRecDepth 20000 in
theorem gL_round_X9_round : GoodIn wsL_round (wsV RL 15 RX9 yX9_round wsX9_round) := goodIn_app (goodIn_of _ (by decide +kernel)) ggL_round_X9_round
set_option maxRecDepth 20000 in
theorem ggL_rowOf_X9_rowOf : GoodIn wsL_rowOf wsX9_rowOf := goodIn_ca (goodIn_ca (goodIn_ca (goodIn_r _ [8, 9, 10, 11, 12, 13, 14, 7, 15, 16, 17, 18, 19, 20, 21, 22, 23, 24, 25, 26, 27, 28, 29, 30, 31, 32, 33, 34, 35, 36, 37, 38, 39, 40, 41, 42, 43, 44, 45, 46, 47, 48, 49, 50, 51, 52, 53, 54, 55, 56] (by decide +kernel) (by decide +kernel)) (goodIn_sub (fun _ h => List.mem_cons_of_mem _ (List.mem_append_left _ (List.mem_append_left _ (List.mem_append_right _ h)))) (by decide +kernel))) (goodIn_sub (fun _ h => List.mem_cons_of_mem _ (List.mem_append_left _ (List.mem_append_right _ h))) (by decide +kernel))) (goodIn_sub (fun _ h => List.mem_cons_of_mem _ (List.mem_append_right _ h)) (by decide +kernel))
set_option maxRecDepth 20000 in
theorem gL_rowOf_X9_rowOf : GoodIn wsL_rowOf (wsV RL 63 RX9 yX9_rowOf wsX9_rowOf) := goodIn_app (goodIn_of _ (by decide +kernel)) ggL_rowOf_X9_rowOf
set_option maxRecDepth 20000 in
theorem ggL_rowYield_X9_rowYield : GoodIn wsL_rowYield wsX9_rowYield := goodIn_ca (goodIn_r _ [6, 7, 8, 9, 10, 11, 12, 13, 14, 15, 5, 16, 17, 18, 19, 20, 21, 22, 23, 24, 25, 26, 27, 28, 29, 30, 31, 32, 33, 34, 35, 36, 37, 38, 39, 40, 41, 42, 43, 44, 45, 46, 47, 48, 49, 50, 51, 52, 53, 54, 55, 56, 57, 58, 59, 60, 61, 62, 63, 64, 65, 66, 67, 68, 69, 70, 71, 72, 73, 74, 75, 76, 77, 78, 79, 80, 81, 82, 83, 84, 85, 86, 87, 88, 89, 90, 91, 92, 93, 94, 95, 96, 97, 98, 99, 100, 101, 102, 103, 104, 105, 106, 107, 108, 109, 110, 111, 112, 113, 114, 115, 116, 117, 118, 119, 120, 121, 122, 123, 124, 125, 126, 127, 128, 129, 130, 131, 132, 133, 134, 135, 136, 137, 138] (by decide +kernel) (by decide +kernel)) (goodIn_sub (fun _ h => List.mem_cons_of_mem _ (List.mem_append_right _ h)) (by decide +kernel))
set_option maxRecDepth 20000 in
theorem gL_rowYield_X9_rowYield : GoodIn wsL_rowYield (wsV RL 40 RX9 yX9_rowYield wsX9_rowYield) := goodIn_app (goodIn_of _ (by decide +kernel)) ggL_rowYield_X9_rowYield
set_option maxRecDepth 20000 in
theorem ggL_rows_X9_rows : GoodIn wsL_rows wsX9_rows := goodIn_ca (goodIn_r _ [6, 7, 8, 9, 10, 11, 5, 12, 13, 14, 15, 16, 17, 18, 19, 20, 21, 22, 23, 24, 25, 26, 27, 28, 29, 30, 31, 32, 33, 34] (by decide +kernel) (by decide +kernel)) (goodIn_sub (fun _ h => List.mem_cons_of_mem _ (List.mem_append_right _ h)) (by decide +kernel))
set_option maxRecDepth 20000 in
theorem gL_rows_X9_rows : GoodIn wsL_rows (wsV RL 60 RX9 yX9_rows wsX9_rows) := goodIn_app (goodIn_of _ (by decide +kernel)) ggL_rows_X9_rows
set_option maxRecDepth 20000 in
theorem ggL_setMode_X9_setMode : GoodIn wsL_setMode wsX9_setMode := goodIn_ca (goodIn_r _ [6, 7, 8, 9, 10, 11, 5, 12, 13, 14, 15, 16, 17, 18, 19, 20, 21, 22, 23, 24, 25, 26] (by decide +kernel) (by decide +kernel)) (goodIn_sub (fun _ h => List.mem_cons_of_mem _ (List.mem_append_right _ h)) (by decide +kernel))
set_option maxRecDepth 20000 in
theorem gL_setMode_X9_setMode : GoodIn wsL_setMode (wsV RL 7 RX9 yX9_setMode wsX9_setMode) := goodIn_app (goodIn_of _ (by decide +kernel)) ggL_setMode_X9_setMode
set_option maxRecDepth 20000 in
theorem ggL_signAt_X9_signAt : GoodIn wsL_signAt wsX9_signAt := goodIn_ca (goodIn_r _ [6, 7, 8, 9, 5, 10, 11, 12, 13, 14, 15, 16, 17, 18, 19, 20, 21, 22, 23, 24, 25, 26, 27, 28, 29, 30, 31, 32, 33, 34, 35, 36, 37, 38, 39, 40, 41, 42, 43, 44, 45, 46, 47, 48, 49, 50, 51, 52, 53, 54, 55, 56, 57, 58, 59, 60, 61, 62, 63, 64, 65, 66, 67, 68, 69, 70, 71, 72, 73, 74, 75, 76, 77, 78, 79, 80, 81, 82, 83, 84, 85, 86, 87, 88, 89, 90, 91, 92, 93, 94, 95, 96, 97, 98, 99, 100, 101, 102, 103, 104, 105, 106, 107, 108, 109, 110, 111, 112, 113, 114, 115, 116, 117, 118, 119, 120, 121, 122, 123, 124, 125, 126, 127, 128, 129, 130, 131, 132] (by decide +kernel) (by decide +kernel)) (goodIn_sub (fun _ h => List.mem_cons_of_mem _ (List.mem_append_right _ h)) (by decide +kernel))
set_option maxRecDepth 20000 in
theorem gL_signAt_X9_signAt : GoodIn wsL_signAt (wsV RL 37 RX9 yX9_signAt wsX9_signAt) := goodIn_app (goodIn_of _ (by decide +kernel)) ggL_signAt_X9_signAt
set_option maxRecDepth 20000 in
theorem ggL_step_X9_step : GoodIn wsL_step wsX9_step := goodIn_ca (goodIn_ca (goodIn_r _ [7, 8, 9, 10, 11, 12, 13, 14, 15, 16, 17, 18, 19, 20, 6, 21, 22, 23, 24, 25, 26, 27, 28, 29, 30, 31, 32, 33, 34, 35, 36, 37, 38, 39, 40, 41, 42, 43, 44, 45, 46, 47] (by decide +kernel) (by decide +kernel)) (goodIn_sub (fun _ h => List.mem_cons_of_mem _ (List.mem_append_left _ (List.mem_append_right _ h))) (by decide +kernel))) (goodIn_sub (fun _ h => List.mem_cons_of_mem _ (List.mem_append_right _ h)) (by decide +kernel))
set_option maxRecDepth 20000 in
theorem gL_step_X9_step : GoodIn wsL_step (wsV RL 106 RX9 yX9_step wsX9_step) := goodIn_app (goodIn_of _ (by decide +kernel)) ggL_step_X9_step
set_option maxRecDepth 20000 in
theorem ggL_tax_X9_tax : GoodIn wsL_tax wsX9_tax := goodIn_ca (goodIn_ca (goodIn_r _ [7, 8, 9, 10, 11, 12, 13, 6, 14, 15, 16, 17, 18, 19, 20, 21, 22, 23, 24, 25, 26, 27, 28, 29, 30, 31, 32, 33, 34, 35, 36, 37, 38, 39, 40, 41, 42, 43, 44, 45, 46, 47, 48, 49, 50, 51, 52, 53, 54, 55, 56, 57, 58, 59, 60, 61, 62, 63, 64, 65, 66, 67, 68, 69, 70, 71] (by decide +kernel) (by decide +kernel)) (goodIn_sub (fun _ h => List.mem_cons_of_mem _ (List.mem_append_left _ (List.mem_append_right _ h))) (by decide +kernel))) (goodIn_sub (fun _ h => List.mem_cons_of_mem _ (List.mem_append_right _ h)) (by decide +kernel))
set_option maxRecDepth 20000 in
theorem gL_tax_X9_tax : GoodIn wsL_tax (wsV RL 110 RX9 yX9_tax wsX9_tax) := goodIn_app (goodIn_of _ (by decide +kernel)) ggL_tax_X9_tax
set_option maxRecDepth 20000 in
theorem ggL_total_X9_total : GoodIn wsL_total wsX9_total := goodIn_ca (goodIn_ca (goodIn_r _ [7, 8, 9, 10, 11, 12, 6, 13, 14, 15, 16, 17, 18, 19, 20, 21, 22, 23, 24, 25, 26, 27, 28, 29, 30, 31, 32, 33, 34, 35, 36, 37, 38, 39, 40, 41, 42, 43, 44, 45, 46, 47, 48, 49, 50] (by decide +kernel) (by decide +kernel)) (goodIn_sub (fun _ h => List.mem_cons_of_mem _ (List.mem_append_left _ (List.mem_append_right _ h))) (by decide +kernel))) (goodIn_sub (fun _ h => List.mem_cons_of_mem _ (List.mem_append_right _ h)) (by decide +kernel))
set_option maxRecDepth 20000 in
theorem gL_total_X9_total : GoodIn wsL_total (wsV RL 68 RX9 yX9_total wsX9_total) := goodIn_app (goodIn_of _ (by decide +kernel)) ggL_total_X9_total
set_option maxRecDepth 20000 in
theorem ggL_untaxed_X9_untaxed : GoodIn wsL_untaxed wsX9_untaxed := goodIn_ca (goodIn_r _ [6, 7, 8, 9, 10, 5, 11, 12, 13, 14, 15, 16, 17, 18, 19, 20, 21, 22, 23, 24, 25, 26, 27, 28, 29, 30, 31, 32, 33, 34, 35, 36, 37, 38, 39, 40, 41, 42, 43, 44, 45, 46, 47, 48, 49, 50, 51, 52, 53, 54, 55] (by decide +kernel) (by decide +kernel)) (goodIn_sub (fun _ h => List.mem_cons_of_mem _ (List.mem_append_right _ h)) (by decide +kernel))
set_option maxRecDepth 20000 in
theorem gL_untaxed_X9_untaxed : GoodIn wsL_untaxed (wsV RL 114 RX9 yX9_untaxed wsX9_untaxed) := goodIn_app (goodIn_of _ (by decide +kernel)) ggL_untaxed_X9_untaxed
set_option maxRecDepth 20000 in
theorem ggL_weigh_X9_weigh : GoodIn wsL_weigh wsX9_weigh := goodIn_ca (goodIn_ca (goodIn_r _ [7, 8, 9, 10, 11, 12, 6, 13, 14, 15, 16, 17, 18, 19, 20, 21, 22, 23, 24, 25, 26, 27, 28, 29, 30, 31, 32, 33, 34, 35, 36, 37, 38, 39, 40] (by decide +kernel) (by decide +kernel)) (goodIn_sub (fun _ h => List.mem_cons_of_mem _ (List.mem_append_left _ (List.mem_append_right _ h))) (by decide +kernel))) (goodIn_sub (fun _ h => List.mem_cons_of_mem _ (List.mem_append_right _ h)) (by decide +kernel))
set_option maxRecDepth 20000 in
theorem gL_weigh_X9_weigh : GoodIn wsL_weigh (wsV RL 99 RX9 yX9_weigh wsX9_weigh) := goodIn_app (goodIn_of _ (by decide +kernel)) ggL_weigh_X9_weigh
set_option maxRecDepth 20000 in
theorem ggL_worth_X9_worth : GoodIn wsL_worth wsX9_worth := goodIn_ca (goodIn_ca (goodIn_r _ [7, 8, 9, 10, 11, 12, 6, 13, 14, 15, 16, 17, 18, 19, 20, 21, 22, 23, 24, 25, 26, 27, 28, 29, 30, 31, 32, 33, 34, 35, 36, 37, 38, 39, 40, 41, 42, 43, 44, 45, 46, 47, 48, 49, 50, 51, 52, 53, 54, 55, 56, 57, 58, 59, 60, 61, 62, 63, 64, 65, 66, 67, 68, 69, 70, 71, 72, 73, 74, 75, 76, 77, 78, 79, 80, 81, 82, 83, 84, 85, 86, 87, 88, 89, 90, 91, 92, 93, 94, 95, 96, 97, 98, 99, 100, 101, 102, 103, 104, 105, 106, 107, 108, 109, 110, 111, 112, 113, 114, 115, 116, 117, 118, 119, 120, 121, 122, 123, 124, 125, 126, 127, 128, 129, 130, 131, 132, 133, 134, 135, 136, 137, 138, 139, 140, 141, 142, 143, 144, 145, 146, 147, 148, 149, 150, 151, 152, 153, 154, 155, 156, 157, 158, 159, 160, 161, 162, 163, 164, 165, 166, 167, 168, 169, 170, 171, 172, 173, 174, 175, 176, 177, 178, 179, 180, 181, 182, 183, 184, 185, 186, 187, 188, 189, 190, 191, 192, 193] (by decide +kernel) (by decide +kernel)) (goodIn_sub (fun _ h => List.mem_cons_of_mem _ (List.mem_append_left _ (List.mem_append_right _ h))) (by decide +kernel))) (goodIn_sub (fun _ h => List.mem_cons_of_mem _ (List.mem_append_right _ h)) (by decide +kernel))
set_option maxRecDepth 20000 in
theorem gL_worth_X9_worth : GoodIn wsL_worth (wsV RL 33 RX9 yX9_worth wsX9_worth) := goodIn_app (goodIn_of _ (by decide +kernel)) ggL_worth_X9_worth
