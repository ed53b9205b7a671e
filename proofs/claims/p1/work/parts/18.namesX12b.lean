-- printed rows that the walks use
theorem dX12_accrued_0 : decode cX12_accrued 0 = .ok (.lload_n 1, 1) := by decide +kernel
theorem dX12_accrued_1 : decode cX12_accrued 1 = .ok (.lconst 0, 1) := by decide +kernel
theorem dX12_accrued_102 : decode cX12_accrued 102 = .ok (.goto 4, 3) := by decide +kernel
theorem dX12_accrued_105 : decode cX12_accrued 105 = .ok (.lconst 0, 1) := by decide +kernel
theorem dX12_accrued_106 : decode cX12_accrued 106 = .ok (.lreturn, 1) := by decide +kernel
theorem dX12_accrued_11 : decode cX12_accrued 11 = .ok (.iload 4, 2) := by decide +kernel
theorem dX12_accrued_13 : decode cX12_accrued 13 = .ok (.i2l, 1) := by decide +kernel
theorem dX12_accrued_14 : decode cX12_accrued 14 = .ok (.lconst 1, 1) := by decide +kernel
theorem dX12_accrued_15 : decode cX12_accrued 15 = .ok (.ldc2_w 252, 3) := by decide +kernel
theorem dX12_accrued_18 : decode cX12_accrued 18 = .ok (.invokestatic 91, 3) := by decide +kernel
theorem dX12_accrued_2 : decode cX12_accrued 2 = .ok (.ldc2_w 121, 3) := by decide +kernel
theorem dX12_accrued_21 : decode cX12_accrued 21 = .ok (.ifCond .eq 19, 3) := by decide +kernel
theorem dX12_accrued_24 : decode cX12_accrued 24 = .ok (.iload_n 3, 1) := by decide +kernel
theorem dX12_accrued_25 : decode cX12_accrued 25 = .ok (.i2l, 1) := by decide +kernel
theorem dX12_accrued_26 : decode cX12_accrued 26 = .ok (.lconst 0, 1) := by decide +kernel
theorem dX12_accrued_27 : decode cX12_accrued 27 = .ok (.iload 4, 2) := by decide +kernel
theorem dX12_accrued_29 : decode cX12_accrued 29 = .ok (.i2l, 1) := by decide +kernel
theorem dX12_accrued_30 : decode cX12_accrued 30 = .ok (.invokestatic 91, 3) := by decide +kernel
theorem dX12_accrued_33 : decode cX12_accrued 33 = .ok (.ifCond .eq 7, 3) := by decide +kernel
theorem dX12_accrued_36 : decode cX12_accrued 36 = .ok (.iconst 1, 1) := by decide +kernel
theorem dX12_accrued_37 : decode cX12_accrued 37 = .ok (.goto 4, 3) := by decide +kernel
theorem dX12_accrued_40 : decode cX12_accrued 40 = .ok (.iconst 0, 1) := by decide +kernel
theorem dX12_accrued_41 : decode cX12_accrued 41 = .ok (.istore 5, 2) := by decide +kernel
theorem dX12_accrued_43 : decode cX12_accrued 43 = .ok (.iload 5, 2) := by decide +kernel
theorem dX12_accrued_45 : decode cX12_accrued 45 = .ok (.ifCond .eq 28, 3) := by decide +kernel
theorem dX12_accrued_48 : decode cX12_accrued 48 = .ok (.aload_n 0, 1) := by decide +kernel
theorem dX12_accrued_49 : decode cX12_accrued 49 = .ok (.lload_n 1, 1) := by decide +kernel
theorem dX12_accrued_5 : decode cX12_accrued 5 = .ok (.invokestatic 91, 3) := by decide +kernel
theorem dX12_accrued_50 : decode cX12_accrued 50 = .ok (.invokestatic 7, 3) := by decide +kernel
theorem dX12_accrued_53 : decode cX12_accrued 53 = .ok (.iload_n 3, 1) := by decide +kernel
theorem dX12_accrued_54 : decode cX12_accrued 54 = .ok (.i2l, 1) := by decide +kernel
theorem dX12_accrued_55 : decode cX12_accrued 55 = .ok (.invokestatic 7, 3) := by decide +kernel
theorem dX12_accrued_58 : decode cX12_accrued 58 = .ok (.invokevirtual 13, 3) := by decide +kernel
theorem dX12_accrued_61 : decode cX12_accrued 61 = .ok (.iload 4, 2) := by decide +kernel
theorem dX12_accrued_63 : decode cX12_accrued 63 = .ok (.i2l, 1) := by decide +kernel
theorem dX12_accrued_64 : decode cX12_accrued 64 = .ok (.invokestatic 7, 3) := by decide +kernel
theorem dX12_accrued_67 : decode cX12_accrued 67 = .ok (.invokevirtual 111, 3) := by decide +kernel
theorem dX12_accrued_70 : decode cX12_accrued 70 = .ok (.goto 4, 3) := by decide +kernel
theorem dX12_accrued_73 : decode cX12_accrued 73 = .ok (.aconst_null, 1) := by decide +kernel
theorem dX12_accrued_74 : decode cX12_accrued 74 = .ok (.astore 6, 2) := by decide +kernel
theorem dX12_accrued_76 : decode cX12_accrued 76 = .ok (.aload_n 0, 1) := by decide +kernel
theorem dX12_accrued_77 : decode cX12_accrued 77 = .ok (.iload 5, 2) := by decide +kernel
theorem dX12_accrued_79 : decode cX12_accrued 79 = .ok (.aload 6, 2) := by decide +kernel
theorem dX12_accrued_8 : decode cX12_accrued 8 = .ok (.ifCond .eq 32, 3) := by decide +kernel
theorem dX12_accrued_81 : decode cX12_accrued 81 = .ok (.ifnull 7, 3) := by decide +kernel
theorem dX12_accrued_84 : decode cX12_accrued 84 = .ok (.iconst 1, 1) := by decide +kernel
theorem dX12_accrued_85 : decode cX12_accrued 85 = .ok (.goto 4, 3) := by decide +kernel
theorem dX12_accrued_88 : decode cX12_accrued 88 = .ok (.iconst 0, 1) := by decide +kernel
theorem dX12_accrued_89 : decode cX12_accrued 89 = .ok (.iconst 1, 1) := by decide +kernel
theorem dX12_accrued_90 : decode cX12_accrued 90 = .ok (.invokevirtual 95, 3) := by decide +kernel
theorem dX12_accrued_93 : decode cX12_accrued 93 = .ok (.ifCond .eq 12, 3) := by decide +kernel
theorem dX12_accrued_96 : decode cX12_accrued 96 = .ok (.aload_n 0, 1) := by decide +kernel
theorem dX12_accrued_97 : decode cX12_accrued 97 = .ok (.aload 6, 2) := by decide +kernel
theorem dX12_accrued_99 : decode cX12_accrued 99 = .ok (.invokevirtual 115, 3) := by decide +kernel
theorem dX12_allWeights_0 : decode cX12_allWeights 0 = .ok (.lconst 0, 1) := by decide +kernel
theorem dX12_allWeights_1 : decode cX12_allWeights 1 = .ok (.lstore_n 1, 1) := by decide +kernel
theorem dX12_allWeights_2 : decode cX12_allWeights 2 = .ok (.iconst 0, 1) := by decide +kernel
theorem dX12_allWeights_28 : decode cX12_allWeights 28 = .ok (.lload_n 1, 1) := by decide +kernel
theorem dX12_allWeights_29 : decode cX12_allWeights 29 = .ok (.lreturn, 1) := by decide +kernel
theorem dX12_allWeights_3 : decode cX12_allWeights 3 = .ok (.istore_n 3, 1) := by decide +kernel
theorem dX12_allWeights_4 : decode cX12_allWeights 4 = .ok (.iload_n 3, 1) := by decide +kernel
theorem dX12_allWeights_5 : decode cX12_allWeights 5 = .ok (.aload_n 0, 1) := by decide +kernel
theorem dX12_allWeights_6 : decode cX12_allWeights 6 = .ok (.getfield 277, 3) := by decide +kernel
theorem dX12_allWeights_9 : decode cX12_allWeights 9 = .ok (.if_icmp .ge 19, 3) := by decide +kernel
theorem dX12_amount_0 : decode cX12_amount 0 = .ok (.aload_n 0, 1) := by decide +kernel
theorem dX12_amount_1 : decode cX12_amount 1 = .ok (.iload_n 1, 1) := by decide +kernel
theorem dX12_amount_10 : decode cX12_amount 10 = .ok (.iconst 1, 1) := by decide +kernel
theorem dX12_amount_11 : decode cX12_amount 11 = .ok (.iconst 1, 1) := by decide +kernel
theorem dX12_amount_12 : decode cX12_amount 12 = .ok (.invokevirtual 95, 3) := by decide +kernel
theorem dX12_amount_15 : decode cX12_amount 15 = .ok (.ifCond .eq 12, 3) := by decide +kernel
theorem dX12_amount_18 : decode cX12_amount 18 = .ok (.aload_n 0, 1) := by decide +kernel
theorem dX12_amount_19 : decode cX12_amount 19 = .ok (.getfield 65, 3) := by decide +kernel
theorem dX12_amount_2 : decode cX12_amount 2 = .ok (.i2l, 1) := by decide +kernel
theorem dX12_amount_22 : decode cX12_amount 22 = .ok (.iload_n 1, 1) := by decide +kernel
theorem dX12_amount_23 : decode cX12_amount 23 = .ok (.laload, 1) := by decide +kernel
theorem dX12_amount_24 : decode cX12_amount 24 = .ok (.goto 4, 3) := by decide +kernel
theorem dX12_amount_27 : decode cX12_amount 27 = .ok (.lconst 0, 1) := by decide +kernel
theorem dX12_amount_28 : decode cX12_amount 28 = .ok (.lreturn, 1) := by decide +kernel
theorem dX12_amount_3 : decode cX12_amount 3 = .ok (.lconst 0, 1) := by decide +kernel
theorem dX12_amount_4 : decode cX12_amount 4 = .ok (.ldc2_w 125, 3) := by decide +kernel
theorem dX12_amount_7 : decode cX12_amount 7 = .ok (.invokestatic 91, 3) := by decide +kernel
theorem dX12_amountsThere_0 : decode cX12_amountsThere 0 = .ok (.iconst 0, 1) := by decide +kernel
theorem dX12_amountsThere_1 : decode cX12_amountsThere 1 = .ok (.istore_n 1, 1) := by decide +kernel
theorem dX12_amountsThere_10 : decode cX12_amountsThere 10 = .ok (.iload_n 1, 1) := by decide +kernel
theorem dX12_amountsThere_11 : decode cX12_amountsThere 11 = .ok (.aload_n 0, 1) := by decide +kernel
theorem dX12_amountsThere_12 : decode cX12_amountsThere 12 = .ok (.getfield 65, 3) := by decide +kernel
theorem dX12_amountsThere_15 : decode cX12_amountsThere 15 = .ok (.iload_n 2, 1) := by decide +kernel
theorem dX12_amountsThere_16 : decode cX12_amountsThere 16 = .ok (.laload, 1) := by decide +kernel
theorem dX12_amountsThere_17 : decode cX12_amountsThere 17 = .ok (.lconst 0, 1) := by decide +kernel
theorem dX12_amountsThere_18 : decode cX12_amountsThere 18 = .ok (.lcmp, 1) := by decide +kernel
theorem dX12_amountsThere_19 : decode cX12_amountsThere 19 = .ok (.ifCond .eq 7, 3) := by decide +kernel
theorem dX12_amountsThere_2 : decode cX12_amountsThere 2 = .ok (.iconst 0, 1) := by decide +kernel
theorem dX12_amountsThere_26 : decode cX12_amountsThere 26 = .ok (.iconst 0, 1) := by decide +kernel
theorem dX12_amountsThere_27 : decode cX12_amountsThere 27 = .ok (.iadd, 1) := by decide +kernel
theorem dX12_amountsThere_28 : decode cX12_amountsThere 28 = .ok (.istore_n 1, 1) := by decide +kernel
theorem dX12_amountsThere_29 : decode cX12_amountsThere 29 = .ok (.iinc 2 1, 3) := by decide +kernel
theorem dX12_amountsThere_3 : decode cX12_amountsThere 3 = .ok (.istore_n 2, 1) := by decide +kernel
theorem dX12_amountsThere_32 : decode cX12_amountsThere 32 = .ok (.goto (-28), 3) := by decide +kernel
theorem dX12_amountsThere_35 : decode cX12_amountsThere 35 = .ok (.iload_n 1, 1) := by decide +kernel
theorem dX12_amountsThere_36 : decode cX12_amountsThere 36 = .ok (.ireturn, 1) := by decide +kernel
theorem dX12_amountsThere_4 : decode cX12_amountsThere 4 = .ok (.iload_n 2, 1) := by decide +kernel
theorem dX12_amountsThere_5 : decode cX12_amountsThere 5 = .ok (.bipush 41, 2) := by decide +kernel
theorem dX12_amountsThere_7 : decode cX12_amountsThere 7 = .ok (.if_icmp .ge 28, 3) := by decide +kernel
theorem dX12_change_0 : decode cX12_change 0 = .ok (.aload_n 0, 1) := by decide +kernel
theorem dX12_change_1 : decode cX12_change 1 = .ok (.iconst 2, 1) := by decide +kernel
theorem dX12_change_2 : decode cX12_change 2 = .ok (.invokevirtual 226, 3) := by decide +kernel
theorem dX12_change_48 : decode cX12_change 48 = .ok (.iconst 0, 1) := by decide +kernel
theorem dX12_change_49 : decode cX12_change 49 = .ok (.ireturn, 1) := by decide +kernel
theorem dX12_change_5 : decode cX12_change 5 = .ok (.ifCond .eq 43, 3) := by decide +kernel
theorem dX12_changes_0 : decode cX12_changes 0 = .ok (.aload_n 0, 1) := by decide +kernel
theorem dX12_changes_1 : decode cX12_changes 1 = .ok (.iconst 0, 1) := by decide +kernel
theorem dX12_changes_10 : decode cX12_changes 10 = .ok (.istore_n 3, 1) := by decide +kernel
theorem dX12_changes_11 : decode cX12_changes 11 = .ok (.iload_n 3, 1) := by decide +kernel
theorem dX12_changes_12 : decode cX12_changes 12 = .ok (.bipush 41, 2) := by decide +kernel
theorem dX12_changes_14 : decode cX12_changes 14 = .ok (.if_icmp .ge 77, 3) := by decide +kernel
theorem dX12_changes_17 : decode cX12_changes 17 = .ok (.aload_n 0, 1) := by decide +kernel
theorem dX12_changes_18 : decode cX12_changes 18 = .ok (.getfield 65, 3) := by decide +kernel
theorem dX12_changes_2 : decode cX12_changes 2 = .ok (.putfield 1, 3) := by decide +kernel
theorem dX12_changes_21 : decode cX12_changes 21 = .ok (.iload_n 3, 1) := by decide +kernel
theorem dX12_changes_22 : decode cX12_changes 22 = .ok (.laload, 1) := by decide +kernel
theorem dX12_changes_23 : decode cX12_changes 23 = .ok (.lconst 0, 1) := by decide +kernel
theorem dX12_changes_24 : decode cX12_changes 24 = .ok (.lcmp, 1) := by decide +kernel
theorem dX12_changes_25 : decode cX12_changes 25 = .ok (.ifCond .ge 7, 3) := by decide +kernel
theorem dX12_changes_32 : decode cX12_changes 32 = .ok (.aload_n 0, 1) := by decide +kernel
theorem dX12_changes_33 : decode cX12_changes 33 = .ok (.getfield 65, 3) := by decide +kernel
theorem dX12_changes_36 : decode cX12_changes 36 = .ok (.iload_n 3, 1) := by decide +kernel
theorem dX12_changes_37 : decode cX12_changes 37 = .ok (.laload, 1) := by decide +kernel
theorem dX12_changes_38 : decode cX12_changes 38 = .ok (.lconst 0, 1) := by decide +kernel
theorem dX12_changes_39 : decode cX12_changes 39 = .ok (.lcmp, 1) := by decide +kernel
theorem dX12_changes_40 : decode cX12_changes 40 = .ok (.ifCond .le 7, 3) := by decide +kernel
theorem dX12_changes_47 : decode cX12_changes 47 = .ok (.iconst 0, 1) := by decide +kernel
theorem dX12_changes_48 : decode cX12_changes 48 = .ok (.istore 4, 2) := by decide +kernel
theorem dX12_changes_5 : decode cX12_changes 5 = .ok (.iconst 0, 1) := by decide +kernel
theorem dX12_changes_50 : decode cX12_changes 50 = .ok (.iload_n 1, 1) := by decide +kernel
theorem dX12_changes_51 : decode cX12_changes 51 = .ok (.iload 4, 2) := by decide +kernel
theorem dX12_changes_53 : decode cX12_changes 53 = .ok (.ifCond .eq 17, 3) := by decide +kernel
theorem dX12_changes_6 : decode cX12_changes 6 = .ok (.istore_n 1, 1) := by decide +kernel
theorem dX12_changes_7 : decode cX12_changes 7 = .ok (.iconst 0, 1) := by decide +kernel
theorem dX12_changes_70 : decode cX12_changes 70 = .ok (.iconst 0, 1) := by decide +kernel
theorem dX12_changes_71 : decode cX12_changes 71 = .ok (.iadd, 1) := by decide +kernel
theorem dX12_changes_72 : decode cX12_changes 72 = .ok (.istore_n 1, 1) := by decide +kernel
theorem dX12_changes_73 : decode cX12_changes 73 = .ok (.iload 4, 2) := by decide +kernel
theorem dX12_changes_75 : decode cX12_changes 75 = .ok (.ifCond .eq 8, 3) := by decide +kernel
theorem dX12_changes_8 : decode cX12_changes 8 = .ok (.istore_n 2, 1) := by decide +kernel
theorem dX12_changes_83 : decode cX12_changes 83 = .ok (.iload_n 2, 1) := by decide +kernel
theorem dX12_changes_84 : decode cX12_changes 84 = .ok (.istore_n 2, 1) := by decide +kernel
theorem dX12_changes_85 : decode cX12_changes 85 = .ok (.iinc 3 1, 3) := by decide +kernel
theorem dX12_changes_88 : decode cX12_changes 88 = .ok (.goto (-77), 3) := by decide +kernel
theorem dX12_changes_9 : decode cX12_changes 9 = .ok (.iconst 0, 1) := by decide +kernel
theorem dX12_changes_91 : decode cX12_changes 91 = .ok (.iload_n 1, 1) := by decide +kernel
theorem dX12_changes_92 : decode cX12_changes 92 = .ok (.ireturn, 1) := by decide +kernel
theorem dX12_clearLives_0 : decode cX12_clearLives 0 = .ok (.aload_n 0, 1) := by decide +kernel
theorem dX12_clearLives_1 : decode cX12_clearLives 1 = .ok (.iconst 0, 1) := by decide +kernel
theorem dX12_clearLives_10 : decode cX12_clearLives 10 = .ok (.aload_n 0, 1) := by decide +kernel
theorem dX12_clearLives_11 : decode cX12_clearLives 11 = .ok (.iconst 0, 1) := by decide +kernel
theorem dX12_clearLives_12 : decode cX12_clearLives 12 = .ok (.putfield 254, 3) := by decide +kernel
theorem dX12_clearLives_15 : decode cX12_clearLives 15 = .ok (.iload_n 1, 1) := by decide +kernel
theorem dX12_clearLives_16 : decode cX12_clearLives 16 = .ok (.ireturn, 1) := by decide +kernel
theorem dX12_clearLives_2 : decode cX12_clearLives 2 = .ok (.putfield 1, 3) := by decide +kernel
theorem dX12_clearLives_5 : decode cX12_clearLives 5 = .ok (.aload_n 0, 1) := by decide +kernel
theorem dX12_clearLives_6 : decode cX12_clearLives 6 = .ok (.getfield 254, 3) := by decide +kernel
theorem dX12_clearLives_9 : decode cX12_clearLives 9 = .ok (.istore_n 1, 1) := by decide +kernel
theorem dX12_clearRow_0 : decode cX12_clearRow 0 = .ok (.aload_n 0, 1) := by decide +kernel
theorem dX12_clearRow_1 : decode cX12_clearRow 1 = .ok (.iconst 0, 1) := by decide +kernel
theorem dX12_clearRow_10 : decode cX12_clearRow 10 = .ok (.iconst 0, 1) := by decide +kernel
theorem dX12_clearRow_11 : decode cX12_clearRow 11 = .ok (.istore_n 2, 1) := by decide +kernel
theorem dX12_clearRow_12 : decode cX12_clearRow 12 = .ok (.iload_n 2, 1) := by decide +kernel
theorem dX12_clearRow_13 : decode cX12_clearRow 13 = .ok (.bipush 41, 2) := by decide +kernel
theorem dX12_clearRow_15 : decode cX12_clearRow 15 = .ok (.if_icmp .ge 16, 3) := by decide +kernel
theorem dX12_clearRow_18 : decode cX12_clearRow 18 = .ok (.aload_n 0, 1) := by decide +kernel
theorem dX12_clearRow_19 : decode cX12_clearRow 19 = .ok (.getfield 65, 3) := by decide +kernel
theorem dX12_clearRow_2 : decode cX12_clearRow 2 = .ok (.putfield 1, 3) := by decide +kernel
theorem dX12_clearRow_22 : decode cX12_clearRow 22 = .ok (.iload_n 2, 1) := by decide +kernel
theorem dX12_clearRow_23 : decode cX12_clearRow 23 = .ok (.lconst 0, 1) := by decide +kernel
theorem dX12_clearRow_24 : decode cX12_clearRow 24 = .ok (.lastore, 1) := by decide +kernel
theorem dX12_clearRow_25 : decode cX12_clearRow 25 = .ok (.iinc 2 1, 3) := by decide +kernel
theorem dX12_clearRow_28 : decode cX12_clearRow 28 = .ok (.goto (-16), 3) := by decide +kernel
theorem dX12_clearRow_31 : decode cX12_clearRow 31 = .ok (.iload_n 1, 1) := by decide +kernel
theorem dX12_clearRow_32 : decode cX12_clearRow 32 = .ok (.ireturn, 1) := by decide +kernel
theorem dX12_clearRow_5 : decode cX12_clearRow 5 = .ok (.aload_n 0, 1) := by decide +kernel
theorem dX12_clearRow_6 : decode cX12_clearRow 6 = .ok (.invokevirtual 137, 3) := by decide +kernel
theorem dX12_clearRow_9 : decode cX12_clearRow 9 = .ok (.istore_n 1, 1) := by decide +kernel
theorem dX12_clearSteps_0 : decode cX12_clearSteps 0 = .ok (.aload_n 0, 1) := by decide +kernel
theorem dX12_clearSteps_1 : decode cX12_clearSteps 1 = .ok (.iconst 0, 1) := by decide +kernel
theorem dX12_clearSteps_10 : decode cX12_clearSteps 10 = .ok (.aload_n 0, 1) := by decide +kernel
theorem dX12_clearSteps_11 : decode cX12_clearSteps 11 = .ok (.iconst 0, 1) := by decide +kernel
theorem dX12_clearSteps_12 : decode cX12_clearSteps 12 = .ok (.putfield 289, 3) := by decide +kernel
theorem dX12_clearSteps_15 : decode cX12_clearSteps 15 = .ok (.iload_n 1, 1) := by decide +kernel
theorem dX12_clearSteps_16 : decode cX12_clearSteps 16 = .ok (.ireturn, 1) := by decide +kernel
theorem dX12_clearSteps_2 : decode cX12_clearSteps 2 = .ok (.putfield 1, 3) := by decide +kernel
theorem dX12_clearSteps_5 : decode cX12_clearSteps 5 = .ok (.aload_n 0, 1) := by decide +kernel
theorem dX12_clearSteps_6 : decode cX12_clearSteps 6 = .ok (.getfield 289, 3) := by decide +kernel
theorem dX12_clearSteps_9 : decode cX12_clearSteps 9 = .ok (.istore_n 1, 1) := by decide +kernel
theorem dX12_clearWeights_0 : decode cX12_clearWeights 0 = .ok (.aload_n 0, 1) := by decide +kernel
theorem dX12_clearWeights_1 : decode cX12_clearWeights 1 = .ok (.iconst 0, 1) := by decide +kernel
theorem dX12_clearWeights_10 : decode cX12_clearWeights 10 = .ok (.aload_n 0, 1) := by decide +kernel
theorem dX12_clearWeights_11 : decode cX12_clearWeights 11 = .ok (.iconst 0, 1) := by decide +kernel
theorem dX12_clearWeights_12 : decode cX12_clearWeights 12 = .ok (.putfield 277, 3) := by decide +kernel
theorem dX12_clearWeights_15 : decode cX12_clearWeights 15 = .ok (.iload_n 1, 1) := by decide +kernel
theorem dX12_clearWeights_16 : decode cX12_clearWeights 16 = .ok (.ireturn, 1) := by decide +kernel
theorem dX12_clearWeights_2 : decode cX12_clearWeights 2 = .ok (.putfield 1, 3) := by decide +kernel
theorem dX12_clearWeights_5 : decode cX12_clearWeights 5 = .ok (.aload_n 0, 1) := by decide +kernel
theorem dX12_clearWeights_6 : decode cX12_clearWeights 6 = .ok (.getfield 277, 3) := by decide +kernel
theorem dX12_clearWeights_9 : decode cX12_clearWeights 9 = .ok (.istore_n 1, 1) := by decide +kernel
theorem dX12_early_0 : decode cX12_early 0 = .ok (.aload_n 0, 1) := by decide +kernel
theorem dX12_early_1 : decode cX12_early 1 = .ok (.iconst 2, 1) := by decide +kernel
theorem dX12_early_2 : decode cX12_early 2 = .ok (.invokevirtual 226, 3) := by decide +kernel
theorem dX12_early_5 : decode cX12_early 5 = .ok (.ifCond .eq 45, 3) := by decide +kernel
theorem dX12_early_50 : decode cX12_early 50 = .ok (.iconst 0, 1) := by decide +kernel
theorem dX12_early_51 : decode cX12_early 51 = .ok (.ireturn, 1) := by decide +kernel
theorem dX12_errors_0 : decode cX12_errors 0 = .ok (.aload_n 0, 1) := by decide +kernel
theorem dX12_errors_1 : decode cX12_errors 1 = .ok (.invokevirtual 310, 3) := by decide +kernel
theorem dX12_errors_10 : decode cX12_errors 10 = .ok (.invokevirtual 316, 3) := by decide +kernel
theorem dX12_errors_13 : decode cX12_errors 13 = .ok (.iadd, 1) := by decide +kernel
theorem dX12_errors_14 : decode cX12_errors 14 = .ok (.istore_n 2, 1) := by decide +kernel
theorem dX12_errors_15 : decode cX12_errors 15 = .ok (.aload_n 0, 1) := by decide +kernel
theorem dX12_errors_16 : decode cX12_errors 16 = .ok (.iload_n 1, 1) := by decide +kernel
theorem dX12_errors_17 : decode cX12_errors 17 = .ok (.invokestatic 147, 3) := by decide +kernel
theorem dX12_errors_20 : decode cX12_errors 20 = .ok (.iconst 1, 1) := by decide +kernel
theorem dX12_errors_21 : decode cX12_errors 21 = .ok (.iconst 1, 1) := by decide +kernel
theorem dX12_errors_22 : decode cX12_errors 22 = .ok (.invokevirtual 95, 3) := by decide +kernel
theorem dX12_errors_25 : decode cX12_errors 25 = .ok (.ifCond .ne 5, 3) := by decide +kernel
theorem dX12_errors_28 : decode cX12_errors 28 = .ok (.iconst 0, 1) := by decide +kernel
theorem dX12_errors_29 : decode cX12_errors 29 = .ok (.ireturn, 1) := by decide +kernel
theorem dX12_errors_30 : decode cX12_errors 30 = .ok (.iload_n 2, 1) := by decide +kernel
theorem dX12_errors_31 : decode cX12_errors 31 = .ok (.aload_n 0, 1) := by decide +kernel
theorem dX12_errors_32 : decode cX12_errors 32 = .ok (.iload_n 1, 1) := by decide +kernel
theorem dX12_errors_33 : decode cX12_errors 33 = .ok (.invokevirtual 319, 3) := by decide +kernel
theorem dX12_errors_36 : decode cX12_errors 36 = .ok (.iadd, 1) := by decide +kernel
theorem dX12_errors_37 : decode cX12_errors 37 = .ok (.ireturn, 1) := by decide +kernel
theorem dX12_errors_4 : decode cX12_errors 4 = .ok (.aload_n 0, 1) := by decide +kernel
theorem dX12_errors_5 : decode cX12_errors 5 = .ok (.invokevirtual 313, 3) := by decide +kernel
theorem dX12_errors_8 : decode cX12_errors 8 = .ok (.iadd, 1) := by decide +kernel
theorem dX12_errors_9 : decode cX12_errors 9 = .ok (.aload_n 0, 1) := by decide +kernel
theorem dX12_failsOfLives_0 : decode cX12_failsOfLives 0 = .ok (.iconst 0, 1) := by decide +kernel
theorem dX12_failsOfLives_1 : decode cX12_failsOfLives 1 = .ok (.istore_n 2, 1) := by decide +kernel
theorem dX12_failsOfLives_2 : decode cX12_failsOfLives 2 = .ok (.iconst 0, 1) := by decide +kernel
theorem dX12_failsOfLives_3 : decode cX12_failsOfLives 3 = .ok (.istore_n 3, 1) := by decide +kernel
theorem dX12_failsOfLives_4 : decode cX12_failsOfLives 4 = .ok (.iload_n 3, 1) := by decide +kernel
theorem dX12_failsOfLives_5 : decode cX12_failsOfLives 5 = .ok (.aload_n 0, 1) := by decide +kernel
theorem dX12_failsOfLives_6 : decode cX12_failsOfLives 6 = .ok (.getfield 254, 3) := by decide +kernel
theorem dX12_failsOfLives_74 : decode cX12_failsOfLives 74 = .ok (.iload_n 2, 1) := by decide +kernel
theorem dX12_failsOfLives_75 : decode cX12_failsOfLives 75 = .ok (.ireturn, 1) := by decide +kernel
theorem dX12_failsOfLives_9 : decode cX12_failsOfLives 9 = .ok (.if_icmp .ge 65, 3) := by decide +kernel
theorem dX12_failsOfLoan_0 : decode cX12_failsOfLoan 0 = .ok (.aload_n 0, 1) := by decide +kernel
theorem dX12_failsOfLoan_1 : decode cX12_failsOfLoan 1 = .ok (.getfield 217, 3) := by decide +kernel
theorem dX12_failsOfLoan_4 : decode cX12_failsOfLoan 4 = .ok (.ifnonnull 5, 3) := by decide +kernel
theorem dX12_failsOfLoan_7 : decode cX12_failsOfLoan 7 = .ok (.iconst 0, 1) := by decide +kernel
theorem dX12_failsOfLoan_8 : decode cX12_failsOfLoan 8 = .ok (.ireturn, 1) := by decide +kernel
theorem dX12_failsOfParts_0 : decode cX12_failsOfParts 0 = .ok (.aload_n 0, 1) := by decide +kernel
theorem dX12_failsOfParts_1 : decode cX12_failsOfParts 1 = .ok (.invokevirtual 280, 3) := by decide +kernel
theorem dX12_failsOfParts_10 : decode cX12_failsOfParts 10 = .ok (.ireturn, 1) := by decide +kernel
theorem dX12_failsOfParts_4 : decode cX12_failsOfParts 4 = .ok (.lconst 0, 1) := by decide +kernel
theorem dX12_failsOfParts_5 : decode cX12_failsOfParts 5 = .ok (.lcmp, 1) := by decide +kernel
theorem dX12_failsOfParts_6 : decode cX12_failsOfParts 6 = .ok (.ifCond .ne 5, 3) := by decide +kernel
theorem dX12_failsOfParts_9 : decode cX12_failsOfParts 9 = .ok (.iconst 0, 1) := by decide +kernel
theorem dX12_failsOfYield_0 : decode cX12_failsOfYield 0 = .ok (.aload_n 0, 1) := by decide +kernel
theorem dX12_failsOfYield_1 : decode cX12_failsOfYield 1 = .ok (.invokevirtual 161, 3) := by decide +kernel
theorem dX12_failsOfYield_16 : decode cX12_failsOfYield 16 = .ok (.iconst 0, 1) := by decide +kernel
theorem dX12_failsOfYield_17 : decode cX12_failsOfYield 17 = .ok (.ireturn, 1) := by decide +kernel
theorem dX12_failsOfYield_4 : decode cX12_failsOfYield 4 = .ok (.iconst 1, 1) := by decide +kernel
theorem dX12_failsOfYield_5 : decode cX12_failsOfYield 5 = .ok (.if_icmp .ne 11, 3) := by decide +kernel
theorem dX12_hasLoan_0 : decode cX12_hasLoan 0 = .ok (.aload_n 0, 1) := by decide +kernel
theorem dX12_hasLoan_1 : decode cX12_hasLoan 1 = .ok (.aload_n 0, 1) := by decide +kernel
theorem dX12_hasLoan_13 : decode cX12_hasLoan 13 = .ok (.putfield 1, 3) := by decide +kernel
theorem dX12_hasLoan_16 : decode cX12_hasLoan 16 = .ok (.aload_n 0, 1) := by decide +kernel
theorem dX12_hasLoan_17 : decode cX12_hasLoan 17 = .ok (.getfield 217, 3) := by decide +kernel
theorem dX12_hasLoan_2 : decode cX12_hasLoan 2 = .ok (.getfield 217, 3) := by decide +kernel
theorem dX12_hasLoan_20 : decode cX12_hasLoan 20 = .ok (.ifnull 7, 3) := by decide +kernel
theorem dX12_hasLoan_27 : decode cX12_hasLoan 27 = .ok (.iconst 0, 1) := by decide +kernel
theorem dX12_hasLoan_28 : decode cX12_hasLoan 28 = .ok (.ireturn, 1) := by decide +kernel
theorem dX12_hasLoan_5 : decode cX12_hasLoan 5 = .ok (.ifnonnull 7, 3) := by decide +kernel
theorem dX12_hasLoan_8 : decode cX12_hasLoan 8 = .ok (.iload_n 1, 1) := by decide +kernel
theorem dX12_hasLoan_9 : decode cX12_hasLoan 9 = .ok (.goto 4, 3) := by decide +kernel
theorem dX12_holiday_0 : decode cX12_holiday 0 = .ok (.aload_n 0, 1) := by decide +kernel
theorem dX12_holiday_1 : decode cX12_holiday 1 = .ok (.iconst 2, 1) := by decide +kernel
theorem dX12_holiday_2 : decode cX12_holiday 2 = .ok (.invokevirtual 226, 3) := by decide +kernel
theorem dX12_holiday_33 : decode cX12_holiday 33 = .ok (.iconst 0, 1) := by decide +kernel
theorem dX12_holiday_34 : decode cX12_holiday 34 = .ok (.ireturn, 1) := by decide +kernel
theorem dX12_holiday_5 : decode cX12_holiday 5 = .ok (.ifCond .eq 28, 3) := by decide +kernel
theorem dX12_isAmount_0 : decode cX12_isAmount 0 = .ok (.lload_n 0, 1) := by decide +kernel
theorem dX12_isAmount_1 : decode cX12_isAmount 1 = .ok (.ldc2_w 119, 3) := by decide +kernel
theorem dX12_isAmount_10 : decode cX12_isAmount 10 = .ok (.ireturn, 1) := by decide +kernel
theorem dX12_isAmount_4 : decode cX12_isAmount 4 = .ok (.ldc2_w 121, 3) := by decide +kernel
theorem dX12_isAmount_7 : decode cX12_isAmount 7 = .ok (.invokestatic 91, 3) := by decide +kernel
theorem dX12_isRate_0 : decode cX12_isRate 0 = .ok (.iload_n 0, 1) := by decide +kernel
theorem dX12_isRate_1 : decode cX12_isRate 1 = .ok (.i2l, 1) := by decide +kernel
theorem dX12_isRate_2 : decode cX12_isRate 2 = .ok (.lconst 0, 1) := by decide +kernel
theorem dX12_isRate_3 : decode cX12_isRate 3 = .ok (.ldc2_w 123, 3) := by decide +kernel
theorem dX12_isRate_6 : decode cX12_isRate 6 = .ok (.invokestatic 91, 3) := by decide +kernel
theorem dX12_isRate_9 : decode cX12_isRate 9 = .ok (.ireturn, 1) := by decide +kernel
theorem dX12_leaves_0 : decode cX12_leaves 0 = .ok (.ldc2_w 292, 3) := by decide +kernel
theorem dX12_leaves_10 : decode cX12_leaves 10 = .ok (.lsub, 1) := by decide +kernel
theorem dX12_leaves_11 : decode cX12_leaves 11 = .ok (.ldc2_w 292, 3) := by decide +kernel
theorem dX12_leaves_14 : decode cX12_leaves 14 = .ok (.lload_n 3, 1) := by decide +kernel
theorem dX12_leaves_15 : decode cX12_leaves 15 = .ok (.lmul, 1) := by decide +kernel
theorem dX12_leaves_16 : decode cX12_leaves 16 = .ok (.lcmp, 1) := by decide +kernel
theorem dX12_leaves_17 : decode cX12_leaves 17 = .ok (.ifCond .lt 7, 3) := by decide +kernel
theorem dX12_leaves_20 : decode cX12_leaves 20 = .ok (.iconst 1, 1) := by decide +kernel
theorem dX12_leaves_21 : decode cX12_leaves 21 = .ok (.goto 4, 3) := by decide +kernel
theorem dX12_leaves_24 : decode cX12_leaves 24 = .ok (.iconst 0, 1) := by decide +kernel
theorem dX12_leaves_25 : decode cX12_leaves 25 = .ok (.ireturn, 1) := by decide +kernel
theorem dX12_leaves_3 : decode cX12_leaves 3 = .ok (.lload_n 1, 1) := by decide +kernel
theorem dX12_leaves_4 : decode cX12_leaves 4 = .ok (.lmul, 1) := by decide +kernel
theorem dX12_leaves_5 : decode cX12_leaves 5 = .ok (.aload_n 0, 1) := by decide +kernel
theorem dX12_leaves_6 : decode cX12_leaves 6 = .ok (.lload_n 1, 1) := by decide +kernel
theorem dX12_leaves_7 : decode cX12_leaves 7 = .ok (.invokevirtual 297, 3) := by decide +kernel
theorem dX12_live_0 : decode cX12_live 0 = .ok (.aload_n 0, 1) := by decide +kernel
theorem dX12_live_1 : decode cX12_live 1 = .ok (.iload_n 1, 1) := by decide +kernel
theorem dX12_live_11 : decode cX12_live 11 = .ok (.ldc2_w 135, 3) := by decide +kernel
theorem dX12_live_14 : decode cX12_live 14 = .ok (.goto 15, 3) := by decide +kernel
theorem dX12_live_2 : decode cX12_live 2 = .ok (.i2l, 1) := by decide +kernel
theorem dX12_live_29 : decode cX12_live 29 = .ok (.invokestatic 91, 3) := by decide +kernel
theorem dX12_live_3 : decode cX12_live 3 = .ok (.lconst 1, 1) := by decide +kernel
theorem dX12_live_32 : decode cX12_live 32 = .ok (.aload_n 0, 1) := by decide +kernel
theorem dX12_live_33 : decode cX12_live 33 = .ok (.getfield 254, 3) := by decide +kernel
theorem dX12_live_36 : decode cX12_live 36 = .ok (.bipush 30, 2) := by decide +kernel
theorem dX12_live_38 : decode cX12_live 38 = .ok (.if_icmp .ge 7, 3) := by decide +kernel
theorem dX12_live_4 : decode cX12_live 4 = .ok (.aload_n 0, 1) := by decide +kernel
theorem dX12_live_41 : decode cX12_live 41 = .ok (.iconst 1, 1) := by decide +kernel
theorem dX12_live_42 : decode cX12_live 42 = .ok (.goto 4, 3) := by decide +kernel
theorem dX12_live_46 : decode cX12_live 46 = .ok (.iconst 1, 1) := by decide +kernel
theorem dX12_live_47 : decode cX12_live 47 = .ok (.invokevirtual 95, 3) := by decide +kernel
theorem dX12_live_5 : decode cX12_live 5 = .ok (.getfield 254, 3) := by decide +kernel
theorem dX12_live_50 : decode cX12_live 50 = .ok (.ifCond .ne 5, 3) := by decide +kernel
theorem dX12_live_53 : decode cX12_live 53 = .ok (.iconst 0, 1) := by decide +kernel
theorem dX12_live_54 : decode cX12_live 54 = .ok (.ireturn, 1) := by decide +kernel
theorem dX12_live_55 : decode cX12_live 55 = .ok (.aload_n 0, 1) := by decide +kernel
theorem dX12_live_56 : decode cX12_live 56 = .ok (.getfield 76, 3) := by decide +kernel
theorem dX12_live_59 : decode cX12_live 59 = .ok (.aload_n 0, 1) := by decide +kernel
theorem dX12_live_60 : decode cX12_live 60 = .ok (.getfield 254, 3) := by decide +kernel
theorem dX12_live_63 : decode cX12_live 63 = .ok (.iload_n 1, 1) := by decide +kernel
theorem dX12_live_64 : decode cX12_live 64 = .ok (.iastore, 1) := by decide +kernel
theorem dX12_live_65 : decode cX12_live 65 = .ok (.aload_n 0, 1) := by decide +kernel
theorem dX12_live_66 : decode cX12_live 66 = .ok (.dup, 1) := by decide +kernel
theorem dX12_live_67 : decode cX12_live 67 = .ok (.getfield 254, 3) := by decide +kernel
theorem dX12_live_70 : decode cX12_live 70 = .ok (.iconst 1, 1) := by decide +kernel
theorem dX12_live_71 : decode cX12_live 71 = .ok (.iadd, 1) := by decide +kernel
theorem dX12_live_72 : decode cX12_live 72 = .ok (.putfield 254, 3) := by decide +kernel
theorem dX12_live_75 : decode cX12_live 75 = .ok (.aload_n 0, 1) := by decide +kernel
theorem dX12_live_76 : decode cX12_live 76 = .ok (.getfield 254, 3) := by decide +kernel
theorem dX12_live_79 : decode cX12_live 79 = .ok (.ireturn, 1) := by decide +kernel
theorem dX12_live_8 : decode cX12_live 8 = .ok (.ifCond .ne 9, 3) := by decide +kernel
theorem dX12_mode_0 : decode cX12_mode 0 = .ok (.aload_n 0, 1) := by decide +kernel
theorem dX12_mode_1 : decode cX12_mode 1 = .ok (.iconst 0, 1) := by decide +kernel
theorem dX12_mode_2 : decode cX12_mode 2 = .ok (.putfield 1, 3) := by decide +kernel
theorem dX12_mode_5 : decode cX12_mode 5 = .ok (.aload_n 0, 1) := by decide +kernel
theorem dX12_mode_6 : decode cX12_mode 6 = .ok (.getfield 29, 3) := by decide +kernel
theorem dX12_mode_9 : decode cX12_mode 9 = .ok (.ireturn, 1) := by decide +kernel
theorem dX12_part_0 : decode cX12_part 0 = .ok (.lload_n 1, 1) := by decide +kernel
theorem dX12_part_1 : decode cX12_part 1 = .ok (.lconst 0, 1) := by decide +kernel
theorem dX12_part_10 : decode cX12_part 10 = .ok (.aload_n 0, 1) := by decide +kernel
theorem dX12_part_11 : decode cX12_part 11 = .ok (.iload 4, 2) := by decide +kernel
theorem dX12_part_13 : decode cX12_part 13 = .ok (.iload_n 3, 1) := by decide +kernel
theorem dX12_part_14 : decode cX12_part 14 = .ok (.i2l, 1) := by decide +kernel
theorem dX12_part_15 : decode cX12_part 15 = .ok (.lconst 0, 1) := by decide +kernel
theorem dX12_part_16 : decode cX12_part 16 = .ok (.aload_n 0, 1) := by decide +kernel
theorem dX12_part_17 : decode cX12_part 17 = .ok (.getfield 277, 3) := by decide +kernel
theorem dX12_part_2 : decode cX12_part 2 = .ok (.ldc2_w 101, 3) := by decide +kernel
theorem dX12_part_20 : decode cX12_part 20 = .ok (.iconst 1, 1) := by decide +kernel
theorem dX12_part_21 : decode cX12_part 21 = .ok (.isub, 1) := by decide +kernel
theorem dX12_part_22 : decode cX12_part 22 = .ok (.i2l, 1) := by decide +kernel
theorem dX12_part_23 : decode cX12_part 23 = .ok (.invokestatic 91, 3) := by decide +kernel
theorem dX12_part_26 : decode cX12_part 26 = .ok (.ifCond .eq 16, 3) := by decide +kernel
theorem dX12_part_42 : decode cX12_part 42 = .ok (.iconst 0, 1) := by decide +kernel
theorem dX12_part_43 : decode cX12_part 43 = .ok (.iconst 1, 1) := by decide +kernel
theorem dX12_part_44 : decode cX12_part 44 = .ok (.invokevirtual 95, 3) := by decide +kernel
theorem dX12_part_47 : decode cX12_part 47 = .ok (.ifCond .eq 13, 3) := by decide +kernel
theorem dX12_part_5 : decode cX12_part 5 = .ok (.invokestatic 91, 3) := by decide +kernel
theorem dX12_part_60 : decode cX12_part 60 = .ok (.lconst 0, 1) := by decide +kernel
theorem dX12_part_61 : decode cX12_part 61 = .ok (.lreturn, 1) := by decide +kernel
theorem dX12_part_8 : decode cX12_part 8 = .ok (.istore 4, 2) := by decide +kernel
theorem dX12_pay_0 : decode cX12_pay 0 = .ok (.iload_n 1, 1) := by decide +kernel
theorem dX12_pay_1 : decode cX12_pay 1 = .ok (.i2l, 1) := by decide +kernel
theorem dX12_pay_12 : decode cX12_pay 12 = .ok (.lload_n 2, 1) := by decide +kernel
theorem dX12_pay_13 : decode cX12_pay 13 = .ok (.invokestatic 127, 3) := by decide +kernel
theorem dX12_pay_16 : decode cX12_pay 16 = .ok (.ifCond .eq 7, 3) := by decide +kernel
theorem dX12_pay_19 : decode cX12_pay 19 = .ok (.iconst 1, 1) := by decide +kernel
theorem dX12_pay_2 : decode cX12_pay 2 = .ok (.lconst 0, 1) := by decide +kernel
theorem dX12_pay_20 : decode cX12_pay 20 = .ok (.goto 4, 3) := by decide +kernel
theorem dX12_pay_23 : decode cX12_pay 23 = .ok (.iconst 0, 1) := by decide +kernel
theorem dX12_pay_24 : decode cX12_pay 24 = .ok (.istore 4, 2) := by decide +kernel
theorem dX12_pay_26 : decode cX12_pay 26 = .ok (.aload_n 0, 1) := by decide +kernel
theorem dX12_pay_27 : decode cX12_pay 27 = .ok (.iload 4, 2) := by decide +kernel
theorem dX12_pay_29 : decode cX12_pay 29 = .ok (.iload 4, 2) := by decide +kernel
theorem dX12_pay_3 : decode cX12_pay 3 = .ok (.ldc2_w 125, 3) := by decide +kernel
theorem dX12_pay_31 : decode cX12_pay 31 = .ok (.ifCond .eq 21, 3) := by decide +kernel
theorem dX12_pay_34 : decode cX12_pay 34 = .ok (.aload_n 0, 1) := by decide +kernel
theorem dX12_pay_35 : decode cX12_pay 35 = .ok (.getfield 65, 3) := by decide +kernel
theorem dX12_pay_38 : decode cX12_pay 38 = .ok (.iload_n 1, 1) := by decide +kernel
theorem dX12_pay_39 : decode cX12_pay 39 = .ok (.laload, 1) := by decide +kernel
theorem dX12_pay_40 : decode cX12_pay 40 = .ok (.lload_n 2, 1) := by decide +kernel
theorem dX12_pay_41 : decode cX12_pay 41 = .ok (.ladd, 1) := by decide +kernel
theorem dX12_pay_42 : decode cX12_pay 42 = .ok (.invokestatic 127, 3) := by decide +kernel
theorem dX12_pay_45 : decode cX12_pay 45 = .ok (.ifCond .eq 7, 3) := by decide +kernel
theorem dX12_pay_48 : decode cX12_pay 48 = .ok (.iconst 1, 1) := by decide +kernel
theorem dX12_pay_49 : decode cX12_pay 49 = .ok (.goto 4, 3) := by decide +kernel
theorem dX12_pay_52 : decode cX12_pay 52 = .ok (.iconst 0, 1) := by decide +kernel
theorem dX12_pay_53 : decode cX12_pay 53 = .ok (.iconst 1, 1) := by decide +kernel
theorem dX12_pay_54 : decode cX12_pay 54 = .ok (.invokevirtual 95, 3) := by decide +kernel
theorem dX12_pay_57 : decode cX12_pay 57 = .ok (.ifCond .ne 5, 3) := by decide +kernel
theorem dX12_pay_6 : decode cX12_pay 6 = .ok (.invokestatic 91, 3) := by decide +kernel
theorem dX12_pay_60 : decode cX12_pay 60 = .ok (.lconst 0, 1) := by decide +kernel
theorem dX12_pay_61 : decode cX12_pay 61 = .ok (.lreturn, 1) := by decide +kernel
theorem dX12_pay_62 : decode cX12_pay 62 = .ok (.aload_n 0, 1) := by decide +kernel
theorem dX12_pay_63 : decode cX12_pay 63 = .ok (.getfield 65, 3) := by decide +kernel
theorem dX12_pay_66 : decode cX12_pay 66 = .ok (.iload_n 1, 1) := by decide +kernel
theorem dX12_pay_67 : decode cX12_pay 67 = .ok (.dup2, 1) := by decide +kernel
theorem dX12_pay_68 : decode cX12_pay 68 = .ok (.laload, 1) := by decide +kernel
theorem dX12_pay_69 : decode cX12_pay 69 = .ok (.lload_n 2, 1) := by decide +kernel
theorem dX12_pay_70 : decode cX12_pay 70 = .ok (.ladd, 1) := by decide +kernel
theorem dX12_pay_71 : decode cX12_pay 71 = .ok (.lastore, 1) := by decide +kernel
theorem dX12_pay_72 : decode cX12_pay 72 = .ok (.aload_n 0, 1) := by decide +kernel
theorem dX12_pay_73 : decode cX12_pay 73 = .ok (.getfield 65, 3) := by decide +kernel
theorem dX12_pay_76 : decode cX12_pay 76 = .ok (.iload_n 1, 1) := by decide +kernel
theorem dX12_pay_77 : decode cX12_pay 77 = .ok (.laload, 1) := by decide +kernel
theorem dX12_pay_78 : decode cX12_pay 78 = .ok (.lreturn, 1) := by decide +kernel
theorem dX12_pay_9 : decode cX12_pay 9 = .ok (.ifCond .eq 14, 3) := by decide +kernel
theorem dX12_round_0 : decode cX12_round 0 = .ok (.lload_n 1, 1) := by decide +kernel
theorem dX12_round_1 : decode cX12_round 1 = .ok (.ldc2_w 99, 3) := by decide +kernel
theorem dX12_round_10 : decode cX12_round 10 = .ok (.ifCond .eq 31, 3) := by decide +kernel
theorem dX12_round_101 : decode cX12_round 101 = .ok (.invokevirtual 115, 3) := by decide +kernel
theorem dX12_round_104 : decode cX12_round 104 = .ok (.goto 4, 3) := by decide +kernel
theorem dX12_round_107 : decode cX12_round 107 = .ok (.lconst 0, 1) := by decide +kernel
theorem dX12_round_108 : decode cX12_round 108 = .ok (.lreturn, 1) := by decide +kernel
theorem dX12_round_13 : decode cX12_round 13 = .ok (.lload_n 3, 1) := by decide +kernel
theorem dX12_round_14 : decode cX12_round 14 = .ok (.lconst 1, 1) := by decide +kernel
theorem dX12_round_15 : decode cX12_round 15 = .ok (.ldc2_w 101, 3) := by decide +kernel
theorem dX12_round_18 : decode cX12_round 18 = .ok (.invokestatic 91, 3) := by decide +kernel
theorem dX12_round_21 : decode cX12_round 21 = .ok (.ifCond .eq 20, 3) := by decide +kernel
theorem dX12_round_24 : decode cX12_round 24 = .ok (.iload 5, 2) := by decide +kernel
theorem dX12_round_26 : decode cX12_round 26 = .ok (.i2l, 1) := by decide +kernel
theorem dX12_round_27 : decode cX12_round 27 = .ok (.lconst 0, 1) := by decide +kernel
theorem dX12_round_28 : decode cX12_round 28 = .ok (.ldc2_w 103, 3) := by decide +kernel
theorem dX12_round_31 : decode cX12_round 31 = .ok (.invokestatic 91, 3) := by decide +kernel
theorem dX12_round_34 : decode cX12_round 34 = .ok (.ifCond .eq 7, 3) := by decide +kernel
theorem dX12_round_37 : decode cX12_round 37 = .ok (.iconst 1, 1) := by decide +kernel
theorem dX12_round_38 : decode cX12_round 38 = .ok (.goto 4, 3) := by decide +kernel
theorem dX12_round_4 : decode cX12_round 4 = .ok (.ldc2_w 101, 3) := by decide +kernel
theorem dX12_round_41 : decode cX12_round 41 = .ok (.iconst 0, 1) := by decide +kernel
theorem dX12_round_42 : decode cX12_round 42 = .ok (.istore 6, 2) := by decide +kernel
theorem dX12_round_44 : decode cX12_round 44 = .ok (.iload 6, 2) := by decide +kernel
theorem dX12_round_46 : decode cX12_round 46 = .ok (.ifCond .eq 29, 3) := by decide +kernel
theorem dX12_round_49 : decode cX12_round 49 = .ok (.aload_n 0, 1) := by decide +kernel
theorem dX12_round_50 : decode cX12_round 50 = .ok (.lload_n 1, 1) := by decide +kernel
theorem dX12_round_51 : decode cX12_round 51 = .ok (.invokestatic 7, 3) := by decide +kernel
theorem dX12_round_54 : decode cX12_round 54 = .ok (.ldc2_w 105, 3) := by decide +kernel
theorem dX12_round_57 : decode cX12_round 57 = .ok (.iload 5, 2) := by decide +kernel
theorem dX12_round_59 : decode cX12_round 59 = .ok (.invokestatic 107, 3) := by decide +kernel
theorem dX12_round_62 : decode cX12_round 62 = .ok (.invokevirtual 13, 3) := by decide +kernel
theorem dX12_round_65 : decode cX12_round 65 = .ok (.lload_n 3, 1) := by decide +kernel
theorem dX12_round_66 : decode cX12_round 66 = .ok (.invokestatic 7, 3) := by decide +kernel
theorem dX12_round_69 : decode cX12_round 69 = .ok (.invokevirtual 111, 3) := by decide +kernel
theorem dX12_round_7 : decode cX12_round 7 = .ok (.invokestatic 91, 3) := by decide +kernel
theorem dX12_round_72 : decode cX12_round 72 = .ok (.goto 4, 3) := by decide +kernel
theorem dX12_round_75 : decode cX12_round 75 = .ok (.aconst_null, 1) := by decide +kernel
theorem dX12_round_76 : decode cX12_round 76 = .ok (.astore 7, 2) := by decide +kernel
theorem dX12_round_78 : decode cX12_round 78 = .ok (.aload_n 0, 1) := by decide +kernel
theorem dX12_round_79 : decode cX12_round 79 = .ok (.iload 6, 2) := by decide +kernel
theorem dX12_round_81 : decode cX12_round 81 = .ok (.aload 7, 2) := by decide +kernel
theorem dX12_round_83 : decode cX12_round 83 = .ok (.ifnull 7, 3) := by decide +kernel
theorem dX12_round_86 : decode cX12_round 86 = .ok (.iconst 1, 1) := by decide +kernel
theorem dX12_round_87 : decode cX12_round 87 = .ok (.goto 4, 3) := by decide +kernel
theorem dX12_round_90 : decode cX12_round 90 = .ok (.iconst 0, 1) := by decide +kernel
theorem dX12_round_91 : decode cX12_round 91 = .ok (.iconst 1, 1) := by decide +kernel
theorem dX12_round_92 : decode cX12_round 92 = .ok (.invokevirtual 95, 3) := by decide +kernel
theorem dX12_round_95 : decode cX12_round 95 = .ok (.ifCond .eq 12, 3) := by decide +kernel
theorem dX12_round_98 : decode cX12_round 98 = .ok (.aload_n 0, 1) := by decide +kernel
theorem dX12_round_99 : decode cX12_round 99 = .ok (.aload 7, 2) := by decide +kernel
theorem dX12_rowOf_0 : decode cX12_rowOf 0 = .ok (.aload_n 0, 1) := by decide +kernel
theorem dX12_rowOf_1 : decode cX12_rowOf 1 = .ok (.iconst 3, 1) := by decide +kernel
theorem dX12_rowOf_2 : decode cX12_rowOf 2 = .ok (.invokevirtual 226, 3) := by decide +kernel
theorem dX12_rowOf_41 : decode cX12_rowOf 41 = .ok (.lconst 0, 1) := by decide +kernel
theorem dX12_rowOf_42 : decode cX12_rowOf 42 = .ok (.lreturn, 1) := by decide +kernel
theorem dX12_rowOf_5 : decode cX12_rowOf 5 = .ok (.ifCond .eq 36, 3) := by decide +kernel
theorem dX12_rowYield_0 : decode cX12_rowYield 0 = .ok (.aload_n 0, 1) := by decide +kernel
theorem dX12_rowYield_1 : decode cX12_rowYield 1 = .ok (.invokevirtual 161, 3) := by decide +kernel
theorem dX12_rowYield_12 : decode cX12_rowYield 12 = .ok (.iconst 0, 1) := by decide +kernel
theorem dX12_rowYield_13 : decode cX12_rowYield 13 = .ok (.istore_n 1, 1) := by decide +kernel
theorem dX12_rowYield_14 : decode cX12_rowYield 14 = .ok (.aload_n 0, 1) := by decide +kernel
theorem dX12_rowYield_15 : decode cX12_rowYield 15 = .ok (.iload_n 1, 1) := by decide +kernel
theorem dX12_rowYield_16 : decode cX12_rowYield 16 = .ok (.iconst 1, 1) := by decide +kernel
theorem dX12_rowYield_17 : decode cX12_rowYield 17 = .ok (.iconst 1, 1) := by decide +kernel
theorem dX12_rowYield_18 : decode cX12_rowYield 18 = .ok (.invokevirtual 95, 3) := by decide +kernel
theorem dX12_rowYield_21 : decode cX12_rowYield 21 = .ok (.ifCond .eq 10, 3) := by decide +kernel
theorem dX12_rowYield_31 : decode cX12_rowYield 31 = .ok (.iconst 0, 1) := by decide +kernel
theorem dX12_rowYield_32 : decode cX12_rowYield 32 = .ok (.ireturn, 1) := by decide +kernel
theorem dX12_rowYield_4 : decode cX12_rowYield 4 = .ok (.iconst 1, 1) := by decide +kernel
theorem dX12_rowYield_5 : decode cX12_rowYield 5 = .ok (.if_icmp .ne 7, 3) := by decide +kernel
theorem dX12_rows_0 : decode cX12_rows 0 = .ok (.aload_n 0, 1) := by decide +kernel
theorem dX12_rows_1 : decode cX12_rows 1 = .ok (.iconst 1, 1) := by decide +kernel
theorem dX12_rows_2 : decode cX12_rows 2 = .ok (.invokevirtual 226, 3) := by decide +kernel
theorem dX12_rows_20 : decode cX12_rows 20 = .ok (.iconst 0, 1) := by decide +kernel
theorem dX12_rows_21 : decode cX12_rows 21 = .ok (.ireturn, 1) := by decide +kernel
theorem dX12_rows_5 : decode cX12_rows 5 = .ok (.ifCond .eq 15, 3) := by decide +kernel
theorem dX12_setMode_0 : decode cX12_setMode 0 = .ok (.aload_n 0, 1) := by decide +kernel
theorem dX12_setMode_1 : decode cX12_setMode 1 = .ok (.iload_n 1, 1) := by decide +kernel
theorem dX12_setMode_10 : decode cX12_setMode 10 = .ok (.iconst 1, 1) := by decide +kernel
theorem dX12_setMode_11 : decode cX12_setMode 11 = .ok (.iconst 1, 1) := by decide +kernel
theorem dX12_setMode_12 : decode cX12_setMode 12 = .ok (.invokevirtual 95, 3) := by decide +kernel
theorem dX12_setMode_15 : decode cX12_setMode 15 = .ok (.ifCond .ne 5, 3) := by decide +kernel
theorem dX12_setMode_18 : decode cX12_setMode 18 = .ok (.iconst 0, 1) := by decide +kernel
theorem dX12_setMode_19 : decode cX12_setMode 19 = .ok (.ireturn, 1) := by decide +kernel
theorem dX12_setMode_2 : decode cX12_setMode 2 = .ok (.i2l, 1) := by decide +kernel
theorem dX12_setMode_20 : decode cX12_setMode 20 = .ok (.aload_n 0, 1) := by decide +kernel
theorem dX12_setMode_21 : decode cX12_setMode 21 = .ok (.getfield 29, 3) := by decide +kernel
theorem dX12_setMode_24 : decode cX12_setMode 24 = .ok (.istore_n 2, 1) := by decide +kernel
theorem dX12_setMode_25 : decode cX12_setMode 25 = .ok (.aload_n 0, 1) := by decide +kernel
theorem dX12_setMode_26 : decode cX12_setMode 26 = .ok (.iload_n 1, 1) := by decide +kernel
theorem dX12_setMode_27 : decode cX12_setMode 27 = .ok (.putfield 29, 3) := by decide +kernel
theorem dX12_setMode_3 : decode cX12_setMode 3 = .ok (.lconst 0, 1) := by decide +kernel
theorem dX12_setMode_30 : decode cX12_setMode 30 = .ok (.iload_n 2, 1) := by decide +kernel
theorem dX12_setMode_31 : decode cX12_setMode 31 = .ok (.ireturn, 1) := by decide +kernel
theorem dX12_setMode_4 : decode cX12_setMode 4 = .ok (.ldc2_w 89, 3) := by decide +kernel
theorem dX12_setMode_7 : decode cX12_setMode 7 = .ok (.invokestatic 91, 3) := by decide +kernel
theorem dX12_step_0 : decode cX12_step 0 = .ok (.lload_n 1, 1) := by decide +kernel
theorem dX12_step_1 : decode cX12_step 1 = .ok (.aload_n 0, 1) := by decide +kernel
theorem dX12_step_100 : decode cX12_step 100 = .ok (.dup, 1) := by decide +kernel
theorem dX12_step_101 : decode cX12_step 101 = .ok (.getfield 289, 3) := by decide +kernel
theorem dX12_step_104 : decode cX12_step 104 = .ok (.iconst 1, 1) := by decide +kernel
theorem dX12_step_105 : decode cX12_step 105 = .ok (.iadd, 1) := by decide +kernel
theorem dX12_step_106 : decode cX12_step 106 = .ok (.putfield 289, 3) := by decide +kernel
theorem dX12_step_109 : decode cX12_step 109 = .ok (.aload_n 0, 1) := by decide +kernel
theorem dX12_step_110 : decode cX12_step 110 = .ok (.getfield 289, 3) := by decide +kernel
theorem dX12_step_113 : decode cX12_step 113 = .ok (.ireturn, 1) := by decide +kernel
theorem dX12_step_2 : decode cX12_step 2 = .ok (.getfield 289, 3) := by decide +kernel
theorem dX12_step_25 : decode cX12_step 25 = .ok (.ldc2_w 121, 3) := by decide +kernel
theorem dX12_step_28 : decode cX12_step 28 = .ok (.invokestatic 91, 3) := by decide +kernel
theorem dX12_step_31 : decode cX12_step 31 = .ok (.ifCond .eq 19, 3) := by decide +kernel
theorem dX12_step_34 : decode cX12_step 34 = .ok (.iload_n 3, 1) := by decide +kernel
theorem dX12_step_35 : decode cX12_step 35 = .ok (.i2l, 1) := by decide +kernel
theorem dX12_step_36 : decode cX12_step 36 = .ok (.lconst 0, 1) := by decide +kernel
theorem dX12_step_37 : decode cX12_step 37 = .ok (.ldc2_w 292, 3) := by decide +kernel
theorem dX12_step_40 : decode cX12_step 40 = .ok (.invokestatic 91, 3) := by decide +kernel
theorem dX12_step_43 : decode cX12_step 43 = .ok (.ifCond .eq 7, 3) := by decide +kernel
theorem dX12_step_46 : decode cX12_step 46 = .ok (.iconst 1, 1) := by decide +kernel
theorem dX12_step_47 : decode cX12_step 47 = .ok (.goto 4, 3) := by decide +kernel
theorem dX12_step_5 : decode cX12_step 5 = .ok (.ifCond .ne 7, 3) := by decide +kernel
theorem dX12_step_50 : decode cX12_step 50 = .ok (.iconst 0, 1) := by decide +kernel
theorem dX12_step_51 : decode cX12_step 51 = .ok (.istore 4, 2) := by decide +kernel
theorem dX12_step_53 : decode cX12_step 53 = .ok (.aload_n 0, 1) := by decide +kernel
theorem dX12_step_54 : decode cX12_step 54 = .ok (.iload 4, 2) := by decide +kernel
theorem dX12_step_56 : decode cX12_step 56 = .ok (.aload_n 0, 1) := by decide +kernel
theorem dX12_step_57 : decode cX12_step 57 = .ok (.getfield 289, 3) := by decide +kernel
theorem dX12_step_60 : decode cX12_step 60 = .ok (.bipush 8, 2) := by decide +kernel
theorem dX12_step_62 : decode cX12_step 62 = .ok (.if_icmp .ge 7, 3) := by decide +kernel
theorem dX12_step_65 : decode cX12_step 65 = .ok (.iconst 1, 1) := by decide +kernel
theorem dX12_step_66 : decode cX12_step 66 = .ok (.goto 4, 3) := by decide +kernel
theorem dX12_step_70 : decode cX12_step 70 = .ok (.iconst 1, 1) := by decide +kernel
theorem dX12_step_71 : decode cX12_step 71 = .ok (.invokevirtual 95, 3) := by decide +kernel
theorem dX12_step_74 : decode cX12_step 74 = .ok (.ifCond .ne 5, 3) := by decide +kernel
theorem dX12_step_77 : decode cX12_step 77 = .ok (.iconst 0, 1) := by decide +kernel
theorem dX12_step_78 : decode cX12_step 78 = .ok (.ireturn, 1) := by decide +kernel
theorem dX12_step_79 : decode cX12_step 79 = .ok (.aload_n 0, 1) := by decide +kernel
theorem dX12_step_8 : decode cX12_step 8 = .ok (.lconst 0, 1) := by decide +kernel
theorem dX12_step_80 : decode cX12_step 80 = .ok (.getfield 83, 3) := by decide +kernel
theorem dX12_step_83 : decode cX12_step 83 = .ok (.aload_n 0, 1) := by decide +kernel
theorem dX12_step_84 : decode cX12_step 84 = .ok (.getfield 289, 3) := by decide +kernel
theorem dX12_step_87 : decode cX12_step 87 = .ok (.lload_n 1, 1) := by decide +kernel
theorem dX12_step_88 : decode cX12_step 88 = .ok (.lastore, 1) := by decide +kernel
theorem dX12_step_89 : decode cX12_step 89 = .ok (.aload_n 0, 1) := by decide +kernel
theorem dX12_step_9 : decode cX12_step 9 = .ok (.goto 16, 3) := by decide +kernel
theorem dX12_step_90 : decode cX12_step 90 = .ok (.getfield 86, 3) := by decide +kernel
theorem dX12_step_93 : decode cX12_step 93 = .ok (.aload_n 0, 1) := by decide +kernel
theorem dX12_step_94 : decode cX12_step 94 = .ok (.getfield 289, 3) := by decide +kernel
theorem dX12_step_97 : decode cX12_step 97 = .ok (.iload_n 3, 1) := by decide +kernel
theorem dX12_step_98 : decode cX12_step 98 = .ok (.iastore, 1) := by decide +kernel
theorem dX12_step_99 : decode cX12_step 99 = .ok (.aload_n 0, 1) := by decide +kernel
theorem dX12_tax_0 : decode cX12_tax 0 = .ok (.lload_n 1, 1) := by decide +kernel
theorem dX12_tax_1 : decode cX12_tax 1 = .ok (.lconst 0, 1) := by decide +kernel
theorem dX12_tax_10 : decode cX12_tax 10 = .ok (.ifCond .eq 24, 3) := by decide +kernel
theorem dX12_tax_13 : decode cX12_tax 13 = .ok (.aload_n 0, 1) := by decide +kernel
theorem dX12_tax_14 : decode cX12_tax 14 = .ok (.aload_n 0, 1) := by decide +kernel
theorem dX12_tax_15 : decode cX12_tax 15 = .ok (.lload_n 1, 1) := by decide +kernel
theorem dX12_tax_16 : decode cX12_tax 16 = .ok (.invokevirtual 297, 3) := by decide +kernel
theorem dX12_tax_19 : decode cX12_tax 19 = .ok (.invokestatic 7, 3) := by decide +kernel
theorem dX12_tax_2 : decode cX12_tax 2 = .ok (.ldc2_w 101, 3) := by decide +kernel
theorem dX12_tax_22 : decode cX12_tax 22 = .ok (.ldc2_w 292, 3) := by decide +kernel
theorem dX12_tax_25 : decode cX12_tax 25 = .ok (.invokestatic 7, 3) := by decide +kernel
theorem dX12_tax_28 : decode cX12_tax 28 = .ok (.invokevirtual 111, 3) := by decide +kernel
theorem dX12_tax_31 : decode cX12_tax 31 = .ok (.goto 4, 3) := by decide +kernel
theorem dX12_tax_34 : decode cX12_tax 34 = .ok (.aconst_null, 1) := by decide +kernel
theorem dX12_tax_35 : decode cX12_tax 35 = .ok (.astore 4, 2) := by decide +kernel
theorem dX12_tax_37 : decode cX12_tax 37 = .ok (.aload_n 0, 1) := by decide +kernel
theorem dX12_tax_38 : decode cX12_tax 38 = .ok (.iload_n 3, 1) := by decide +kernel
theorem dX12_tax_39 : decode cX12_tax 39 = .ok (.aload 4, 2) := by decide +kernel
theorem dX12_tax_41 : decode cX12_tax 41 = .ok (.ifnull 7, 3) := by decide +kernel
theorem dX12_tax_44 : decode cX12_tax 44 = .ok (.iconst 1, 1) := by decide +kernel
theorem dX12_tax_45 : decode cX12_tax 45 = .ok (.goto 4, 3) := by decide +kernel
theorem dX12_tax_48 : decode cX12_tax 48 = .ok (.iconst 0, 1) := by decide +kernel
theorem dX12_tax_49 : decode cX12_tax 49 = .ok (.iconst 1, 1) := by decide +kernel
theorem dX12_tax_5 : decode cX12_tax 5 = .ok (.invokestatic 91, 3) := by decide +kernel
theorem dX12_tax_50 : decode cX12_tax 50 = .ok (.invokevirtual 95, 3) := by decide +kernel
theorem dX12_tax_53 : decode cX12_tax 53 = .ok (.ifCond .eq 12, 3) := by decide +kernel
theorem dX12_tax_56 : decode cX12_tax 56 = .ok (.aload_n 0, 1) := by decide +kernel
theorem dX12_tax_57 : decode cX12_tax 57 = .ok (.aload 4, 2) := by decide +kernel
theorem dX12_tax_59 : decode cX12_tax 59 = .ok (.invokevirtual 115, 3) := by decide +kernel
theorem dX12_tax_62 : decode cX12_tax 62 = .ok (.goto 4, 3) := by decide +kernel
theorem dX12_tax_65 : decode cX12_tax 65 = .ok (.lconst 0, 1) := by decide +kernel
theorem dX12_tax_66 : decode cX12_tax 66 = .ok (.lreturn, 1) := by decide +kernel
theorem dX12_tax_8 : decode cX12_tax 8 = .ok (.istore_n 3, 1) := by decide +kernel
theorem dX12_tax_9 : decode cX12_tax 9 = .ok (.iload_n 3, 1) := by decide +kernel
theorem dX12_thousandfold_0 : decode cX12_thousandfold 0 = .ok (.lconst 0, 1) := by decide +kernel
theorem dX12_thousandfold_1 : decode cX12_thousandfold 1 = .ok (.lstore_n 3, 1) := by decide +kernel
theorem dX12_thousandfold_11 : decode cX12_thousandfold 11 = .ok (.if_icmp .ge 65, 3) := by decide +kernel
theorem dX12_thousandfold_2 : decode cX12_thousandfold 2 = .ok (.iconst 0, 1) := by decide +kernel
theorem dX12_thousandfold_3 : decode cX12_thousandfold 3 = .ok (.istore 5, 2) := by decide +kernel
theorem dX12_thousandfold_5 : decode cX12_thousandfold 5 = .ok (.iload 5, 2) := by decide +kernel
theorem dX12_thousandfold_7 : decode cX12_thousandfold 7 = .ok (.aload_n 0, 1) := by decide +kernel
theorem dX12_thousandfold_76 : decode cX12_thousandfold 76 = .ok (.lload_n 3, 1) := by decide +kernel
theorem dX12_thousandfold_77 : decode cX12_thousandfold 77 = .ok (.lreturn, 1) := by decide +kernel
theorem dX12_thousandfold_8 : decode cX12_thousandfold 8 = .ok (.getfield 289, 3) := by decide +kernel
theorem dX12_thrown_0 : decode cX12_thrown 0 = .ok (.aload_n 0, 1) := by decide +kernel
theorem dX12_thrown_1 : decode cX12_thrown 1 = .ok (.getfield 1, 3) := by decide +kernel
theorem dX12_thrown_4 : decode cX12_thrown 4 = .ok (.ireturn, 1) := by decide +kernel
theorem dX12_total_0 : decode cX12_total 0 = .ok (.aload_n 0, 1) := by decide +kernel
theorem dX12_total_1 : decode cX12_total 1 = .ok (.iconst 2, 1) := by decide +kernel
theorem dX12_total_2 : decode cX12_total 2 = .ok (.invokevirtual 226, 3) := by decide +kernel
theorem dX12_total_34 : decode cX12_total 34 = .ok (.lconst 0, 1) := by decide +kernel
theorem dX12_total_35 : decode cX12_total 35 = .ok (.lreturn, 1) := by decide +kernel
theorem dX12_total_5 : decode cX12_total 5 = .ok (.ifCond .eq 29, 3) := by decide +kernel
theorem dX12_untaxed_0 : decode cX12_untaxed 0 = .ok (.aload_n 0, 1) := by decide +kernel
theorem dX12_untaxed_1 : decode cX12_untaxed 1 = .ok (.lload_n 1, 1) := by decide +kernel
theorem dX12_untaxed_10 : decode cX12_untaxed 10 = .ok (.iconst 1, 1) := by decide +kernel
theorem dX12_untaxed_102 : decode cX12_untaxed 102 = .ok (.lload 5, 2) := by decide +kernel
theorem dX12_untaxed_104 : decode cX12_untaxed 104 = .ok (.lreturn, 1) := by decide +kernel
theorem dX12_untaxed_11 : decode cX12_untaxed 11 = .ok (.invokevirtual 95, 3) := by decide +kernel
theorem dX12_untaxed_14 : decode cX12_untaxed 14 = .ok (.ifCond .ne 5, 3) := by decide +kernel
theorem dX12_untaxed_17 : decode cX12_untaxed 17 = .ok (.lconst 0, 1) := by decide +kernel
theorem dX12_untaxed_18 : decode cX12_untaxed 18 = .ok (.lreturn, 1) := by decide +kernel
theorem dX12_untaxed_19 : decode cX12_untaxed 19 = .ok (.aload_n 0, 1) := by decide +kernel
theorem dX12_untaxed_2 : decode cX12_untaxed 2 = .ok (.lconst 0, 1) := by decide +kernel
theorem dX12_untaxed_20 : decode cX12_untaxed 20 = .ok (.ldc2_w 101, 3) := by decide +kernel
theorem dX12_untaxed_23 : decode cX12_untaxed 23 = .ok (.lload_n 1, 1) := by decide +kernel
theorem dX12_untaxed_24 : decode cX12_untaxed 24 = .ok (.invokevirtual 300, 3) := by decide +kernel
theorem dX12_untaxed_27 : decode cX12_untaxed 27 = .ok (.ifCond .ne 7, 3) := by decide +kernel
theorem dX12_untaxed_3 : decode cX12_untaxed 3 = .ok (.ldc2_w 121, 3) := by decide +kernel
theorem dX12_untaxed_34 : decode cX12_untaxed 34 = .ok (.ldc2_w 283, 3) := by decide +kernel
theorem dX12_untaxed_37 : decode cX12_untaxed 37 = .ok (.lstore_n 3, 1) := by decide +kernel
theorem dX12_untaxed_38 : decode cX12_untaxed 38 = .ok (.ldc2_w 101, 3) := by decide +kernel
theorem dX12_untaxed_41 : decode cX12_untaxed 41 = .ok (.lstore 5, 2) := by decide +kernel
theorem dX12_untaxed_43 : decode cX12_untaxed 43 = .ok (.lload 5, 2) := by decide +kernel
theorem dX12_untaxed_45 : decode cX12_untaxed 45 = .ok (.lload_n 3, 1) := by decide +kernel
theorem dX12_untaxed_46 : decode cX12_untaxed 46 = .ok (.lsub, 1) := by decide +kernel
theorem dX12_untaxed_47 : decode cX12_untaxed 47 = .ok (.lconst 1, 1) := by decide +kernel
theorem dX12_untaxed_48 : decode cX12_untaxed 48 = .ok (.lcmp, 1) := by decide +kernel
theorem dX12_untaxed_49 : decode cX12_untaxed 49 = .ok (.ifCond .le 53, 3) := by decide +kernel
theorem dX12_untaxed_52 : decode cX12_untaxed 52 = .ok (.lload_n 3, 1) := by decide +kernel
theorem dX12_untaxed_53 : decode cX12_untaxed 53 = .ok (.lload 5, 2) := by decide +kernel
theorem dX12_untaxed_55 : decode cX12_untaxed 55 = .ok (.lload_n 3, 1) := by decide +kernel
theorem dX12_untaxed_56 : decode cX12_untaxed 56 = .ok (.lsub, 1) := by decide +kernel
theorem dX12_untaxed_57 : decode cX12_untaxed 57 = .ok (.ldc2_w 42, 3) := by decide +kernel
theorem dX12_untaxed_6 : decode cX12_untaxed 6 = .ok (.invokestatic 91, 3) := by decide +kernel
theorem dX12_untaxed_60 : decode cX12_untaxed 60 = .ok (.ldiv, 1) := by decide +kernel
theorem dX12_untaxed_61 : decode cX12_untaxed 61 = .ok (.ladd, 1) := by decide +kernel
theorem dX12_untaxed_62 : decode cX12_untaxed 62 = .ok (.lstore 7, 2) := by decide +kernel
theorem dX12_untaxed_64 : decode cX12_untaxed 64 = .ok (.aload_n 0, 1) := by decide +kernel
theorem dX12_untaxed_65 : decode cX12_untaxed 65 = .ok (.lload 7, 2) := by decide +kernel
theorem dX12_untaxed_67 : decode cX12_untaxed 67 = .ok (.lload_n 1, 1) := by decide +kernel
theorem dX12_untaxed_68 : decode cX12_untaxed 68 = .ok (.invokevirtual 300, 3) := by decide +kernel
theorem dX12_untaxed_71 : decode cX12_untaxed 71 = .ok (.istore 9, 2) := by decide +kernel
theorem dX12_untaxed_73 : decode cX12_untaxed 73 = .ok (.iload 9, 2) := by decide +kernel
theorem dX12_untaxed_75 : decode cX12_untaxed 75 = .ok (.ifCond .eq 8, 3) := by decide +kernel
theorem dX12_untaxed_78 : decode cX12_untaxed 78 = .ok (.lload 7, 2) := by decide +kernel
theorem dX12_untaxed_80 : decode cX12_untaxed 80 = .ok (.goto 5, 3) := by decide +kernel
theorem dX12_untaxed_83 : decode cX12_untaxed 83 = .ok (.lload 5, 2) := by decide +kernel
theorem dX12_untaxed_85 : decode cX12_untaxed 85 = .ok (.lstore 5, 2) := by decide +kernel
theorem dX12_untaxed_87 : decode cX12_untaxed 87 = .ok (.iload 9, 2) := by decide +kernel
theorem dX12_untaxed_89 : decode cX12_untaxed 89 = .ok (.ifCond .eq 7, 3) := by decide +kernel
theorem dX12_untaxed_9 : decode cX12_untaxed 9 = .ok (.iconst 1, 1) := by decide +kernel
theorem dX12_untaxed_92 : decode cX12_untaxed 92 = .ok (.lload_n 3, 1) := by decide +kernel
theorem dX12_untaxed_93 : decode cX12_untaxed 93 = .ok (.goto 5, 3) := by decide +kernel
theorem dX12_untaxed_96 : decode cX12_untaxed 96 = .ok (.lload 7, 2) := by decide +kernel
theorem dX12_untaxed_98 : decode cX12_untaxed 98 = .ok (.lstore_n 3, 1) := by decide +kernel
theorem dX12_untaxed_99 : decode cX12_untaxed 99 = .ok (.goto (-56), 3) := by decide +kernel
theorem dX12_weigh_0 : decode cX12_weigh 0 = .ok (.aload_n 0, 1) := by decide +kernel
theorem dX12_weigh_1 : decode cX12_weigh 1 = .ok (.iload_n 1, 1) := by decide +kernel
theorem dX12_weigh_10 : decode cX12_weigh 10 = .ok (.aload_n 0, 1) := by decide +kernel
theorem dX12_weigh_11 : decode cX12_weigh 11 = .ok (.getfield 277, 3) := by decide +kernel
theorem dX12_weigh_14 : decode cX12_weigh 14 = .ok (.bipush 12, 2) := by decide +kernel
theorem dX12_weigh_16 : decode cX12_weigh 16 = .ok (.if_icmp .ge 7, 3) := by decide +kernel
theorem dX12_weigh_19 : decode cX12_weigh 19 = .ok (.iconst 1, 1) := by decide +kernel
theorem dX12_weigh_2 : decode cX12_weigh 2 = .ok (.i2l, 1) := by decide +kernel
theorem dX12_weigh_20 : decode cX12_weigh 20 = .ok (.goto 4, 3) := by decide +kernel
theorem dX12_weigh_24 : decode cX12_weigh 24 = .ok (.iconst 1, 1) := by decide +kernel
theorem dX12_weigh_25 : decode cX12_weigh 25 = .ok (.invokevirtual 95, 3) := by decide +kernel
theorem dX12_weigh_28 : decode cX12_weigh 28 = .ok (.ifCond .ne 5, 3) := by decide +kernel
theorem dX12_weigh_3 : decode cX12_weigh 3 = .ok (.lconst 0, 1) := by decide +kernel
theorem dX12_weigh_31 : decode cX12_weigh 31 = .ok (.iconst 0, 1) := by decide +kernel
theorem dX12_weigh_32 : decode cX12_weigh 32 = .ok (.ireturn, 1) := by decide +kernel
theorem dX12_weigh_33 : decode cX12_weigh 33 = .ok (.aload_n 0, 1) := by decide +kernel
theorem dX12_weigh_34 : decode cX12_weigh 34 = .ok (.getfield 80, 3) := by decide +kernel
theorem dX12_weigh_37 : decode cX12_weigh 37 = .ok (.aload_n 0, 1) := by decide +kernel
theorem dX12_weigh_38 : decode cX12_weigh 38 = .ok (.getfield 277, 3) := by decide +kernel
theorem dX12_weigh_4 : decode cX12_weigh 4 = .ok (.ldc2_w 135, 3) := by decide +kernel
theorem dX12_weigh_41 : decode cX12_weigh 41 = .ok (.iload_n 1, 1) := by decide +kernel
theorem dX12_weigh_42 : decode cX12_weigh 42 = .ok (.iastore, 1) := by decide +kernel
theorem dX12_weigh_43 : decode cX12_weigh 43 = .ok (.aload_n 0, 1) := by decide +kernel
theorem dX12_weigh_44 : decode cX12_weigh 44 = .ok (.dup, 1) := by decide +kernel
theorem dX12_weigh_45 : decode cX12_weigh 45 = .ok (.getfield 277, 3) := by decide +kernel
theorem dX12_weigh_48 : decode cX12_weigh 48 = .ok (.iconst 1, 1) := by decide +kernel
theorem dX12_weigh_49 : decode cX12_weigh 49 = .ok (.iadd, 1) := by decide +kernel
theorem dX12_weigh_50 : decode cX12_weigh 50 = .ok (.putfield 277, 3) := by decide +kernel
theorem dX12_weigh_53 : decode cX12_weigh 53 = .ok (.aload_n 0, 1) := by decide +kernel
theorem dX12_weigh_54 : decode cX12_weigh 54 = .ok (.getfield 277, 3) := by decide +kernel
theorem dX12_weigh_57 : decode cX12_weigh 57 = .ok (.ireturn, 1) := by decide +kernel
theorem dX12_weigh_7 : decode cX12_weigh 7 = .ok (.invokestatic 91, 3) := by decide +kernel
set_option maxRecDepth 20000 in
theorem ggX12_accrued_X11_of : GoodIn wsX12_accrued wsX11_of := goodIn_r _ [10, 11, 12, 13, 14, 15, 16, 17, 18, 9, 19, 20, 21, 22, 23, 24, 25, 26, 117, 118] (by decide +kernel) (by decide +kernel)
set_option maxRecDepth 20000 in
theorem gX12_accrued_X11_of : GoodIn wsX12_accrued (va_wsS RX12 7 yX11_of wsX11_of) := goodIn_app (goodIn_of _ (by decide +kernel)) ggX12_accrued_X11_of
set_option maxRecDepth 20000 in
theorem ggX12_accrued_X11_times : GoodIn wsX12_accrued wsX11_times := goodIn_r _ [30, 26, 11, 17, 18, 9, 25, 31, 32, 33, 34, 19, 20, 21, 22, 23, 24, 117, 118] (by decide +kernel) (by decide +kernel)
set_option maxRecDepth 20000 in
theorem gX12_accrued_X11_times : GoodIn wsX12_accrued (wsV RX12 13 RX11 yX11_times wsX11_times) := goodIn_app (goodIn_of _ (by decide +kernel)) ggX12_accrued_X11_times
set_option maxRecDepth 20000 in
theorem ggX12_accrued_X12_in : GoodIn wsX12_accrued wsX12_in := goodIn_r _ [6] (by decide +kernel) (by decide +kernel)
set_option maxRecDepth 20000 in
theorem gX12_accrued_X12_in : GoodIn wsX12_accrued (va_wsS RX12 91 yX12_in wsX12_in) := goodIn_app (goodIn_of _ (by decide +kernel)) ggX12_accrued_X12_in
set_option maxRecDepth 20000 in
theorem ggX12_accrued_X12_passes : GoodIn wsX12_accrued wsX12_passes := goodIn_r _ [107, 108, 119, 120, 121, 122, 123, 124, 125, 126, 127, 128, 129, 130] (by decide +kernel) (by decide +kernel)
set_option maxRecDepth 20000 in
theorem gX12_accrued_X12_passes : GoodIn wsX12_accrued (wsV RX12 95 RX12 yX12_passes wsX12_passes) := goodIn_app (goodIn_of _ (by decide +kernel)) ggX12_accrued_X12_passes
set_option maxRecDepth 20000 in
theorem ggX12_accrued_X12_rounded : GoodIn wsX12_accrued wsX12_rounded := goodIn_r _ [38, 39, 40, 41, 42, 43, 9, 44, 25, 45, 46, 47, 48, 17, 18, 26, 19, 20, 21, 22, 23, 24, 11, 49, 50, 51, 52, 53, 8, 10, 12, 13, 14, 15, 16, 54, 55, 56, 57, 58, 59, 60, 61, 62, 63, 64, 65, 66, 67, 68, 69, 31, 32, 33, 34, 70, 71, 72, 73, 74, 75, 76, 28, 29, 30, 77, 78, 79, 80, 81, 82, 83, 84, 85, 86, 87, 88, 89, 90, 91, 92, 93, 94, 95, 96, 97, 98, 99, 100, 101, 5, 102, 7, 103, 119, 120, 121, 122, 123, 124, 125, 126, 127, 128, 129, 130, 117, 118] (by decide +kernel) (by decide +kernel)
set_option maxRecDepth 20000 in
theorem gX12_accrued_X12_rounded : GoodIn wsX12_accrued (wsV RX12 111 RX12 yX12_rounded wsX12_rounded) := goodIn_app (goodIn_of _ (by decide +kernel)) ggX12_accrued_X12_rounded
set_option maxRecDepth 20000 in
theorem ggX12_accrued_X12_tells : GoodIn wsX12_accrued wsX12_tells := goodIn_r _ [112, 113, 114, 115, 9, 116, 26, 12, 25, 117, 118] (by decide +kernel) (by decide +kernel)
set_option maxRecDepth 20000 in
theorem gX12_accrued_X12_tells : GoodIn wsX12_accrued (wsV RX12 115 RX12 yX12_tells wsX12_tells) := goodIn_app (goodIn_of _ (by decide +kernel)) ggX12_accrued_X12_tells
set_option maxRecDepth 20000 in
theorem ggX12_amount_X12_in : GoodIn wsX12_amount wsX12_in := goodIn_r _ [6] (by decide +kernel) (by decide +kernel)
set_option maxRecDepth 20000 in
theorem gX12_amount_X12_in : GoodIn wsX12_amount (va_wsS RX12 91 yX12_in wsX12_in) := goodIn_app (goodIn_of _ (by decide +kernel)) ggX12_amount_X12_in
set_option maxRecDepth 20000 in
theorem ggX12_amount_X12_passes : GoodIn wsX12_amount wsX12_passes := goodIn_r _ [10, 11, 12, 13, 14, 15, 16, 17, 18, 19, 20, 21, 22, 23] (by decide +kernel) (by decide +kernel)
set_option maxRecDepth 20000 in
theorem gX12_amount_X12_passes : GoodIn wsX12_amount (wsV RX12 95 RX12 yX12_passes wsX12_passes) := goodIn_app (goodIn_of _ (by decide +kernel)) ggX12_amount_X12_passes
set_option maxRecDepth 20000 in
theorem ggX12_change_X12_hasLoan : GoodIn wsX12_change wsX12_hasLoan := goodIn_r _ [8, 2, 9, 216, 217, 218, 219, 220, 221, 222, 223, 224, 225, 226, 227] (by decide +kernel) (by decide +kernel)
set_option maxRecDepth 20000 in
theorem gX12_change_X12_hasLoan : GoodIn wsX12_change (wsV RX12 226 RX12 yX12_hasLoan wsX12_hasLoan) := goodIn_app (goodIn_of _ (by decide +kernel)) ggX12_change_X12_hasLoan
set_option maxRecDepth 20000 in
theorem ggX12_clearRow_X12_amountsThere : GoodIn wsX12_clearRow wsX12_amountsThere := goodIn_r _ [7, 2, 8, 9, 10, 11, 12, 13, 14, 15, 16, 17, 18, 19] (by decide +kernel) (by decide +kernel)
set_option maxRecDepth 20000 in
theorem gX12_clearRow_X12_amountsThere : GoodIn wsX12_clearRow (wsV RX12 137 RX12 yX12_amountsThere wsX12_amountsThere) := goodIn_app (goodIn_of _ (by decide +kernel)) ggX12_clearRow_X12_amountsThere
set_option maxRecDepth 20000 in
theorem ggX12_early_X12_hasLoan : GoodIn wsX12_early wsX12_hasLoan := goodIn_r _ [8, 1, 9, 213, 214, 215, 216, 217, 218, 219, 220, 221, 222, 223, 224] (by decide +kernel) (by decide +kernel)
set_option maxRecDepth 20000 in
theorem gX12_early_X12_hasLoan : GoodIn wsX12_early (wsV RX12 226 RX12 yX12_hasLoan wsX12_hasLoan) := goodIn_app (goodIn_of _ (by decide +kernel)) ggX12_early_X12_hasLoan
set_option maxRecDepth 20000 in
theorem ggX12_errors_X12_failsOfLives : GoodIn wsX12_errors wsX12_failsOfLives := goodIn_r _ [137, 138, 139, 140, 141, 4, 142, 143, 144, 25, 145, 146, 147, 148, 149, 150, 151, 152, 24, 153, 154, 155, 156, 157, 158, 159, 26, 27, 28, 29, 30, 31, 32, 33, 34, 35, 36, 37, 38, 39, 40, 41, 42, 43, 44, 45, 46, 47, 48, 49, 50, 51, 52, 53, 54, 55, 56, 57, 58, 59, 60, 61, 62, 63, 64, 65, 66, 67, 160, 161, 162, 163, 164, 165, 166, 167, 168, 169, 170, 171, 172, 173, 174, 175, 176, 177, 178, 179, 180, 181, 182, 183, 184, 185, 186] (by decide +kernel) (by decide +kernel)
set_option maxRecDepth 20000 in
theorem gX12_errors_X12_failsOfLives : GoodIn wsX12_errors (wsV RX12 319 RX12 yX12_failsOfLives wsX12_failsOfLives) := goodIn_app (goodIn_of _ (by decide +kernel)) ggX12_errors_X12_failsOfLives
set_option maxRecDepth 20000 in
theorem ggX12_errors_X12_failsOfLoan : GoodIn wsX12_errors wsX12_failsOfLoan := goodIn_r _ [92, 93, 94, 95, 96, 97, 98, 99, 100, 101, 102, 103, 104, 105, 106, 107, 108, 109, 110, 111, 112, 113, 114, 115, 116, 117, 118, 119, 120, 121, 4, 122, 173, 174, 175, 176, 177, 178, 179, 180, 181, 182, 183, 184, 187, 188, 189, 190, 191, 192, 193, 194, 195] (by decide +kernel) (by decide +kernel)
set_option maxRecDepth 20000 in
theorem gX12_errors_X12_failsOfLoan : GoodIn wsX12_errors (wsV RX12 316 RX12 yX12_failsOfLoan wsX12_failsOfLoan) := goodIn_app (goodIn_of _ (by decide +kernel)) ggX12_errors_X12_failsOfLoan
set_option maxRecDepth 20000 in
theorem ggX12_errors_X12_failsOfParts : GoodIn wsX12_errors wsX12_failsOfParts := goodIn_r _ [75, 76, 77, 78, 79, 80, 4, 81, 82, 83, 84, 85, 86, 87, 88, 173, 174, 175, 176, 177, 178, 179, 180, 181, 182, 183, 184] (by decide +kernel) (by decide +kernel)
set_option maxRecDepth 20000 in
theorem gX12_errors_X12_failsOfParts : GoodIn wsX12_errors (wsV RX12 313 RX12 yX12_failsOfParts wsX12_failsOfParts) := goodIn_app (goodIn_of _ (by decide +kernel)) ggX12_errors_X12_failsOfParts
set_option maxRecDepth 20000 in
theorem ggX12_errors_X12_failsOfYield : GoodIn wsX12_errors wsX12_failsOfYield := goodIn_r _ [5, 6, 7, 8, 4, 9, 10, 11, 12, 13, 14, 15, 16, 17, 18, 19, 20, 21, 22, 23, 24, 25, 26, 27, 28, 29, 30, 31, 32, 33, 34, 35, 36, 37, 38, 39, 40, 41, 42, 43, 44, 45, 46, 47, 48, 49, 50, 51, 52, 53, 54, 55, 56, 57, 58, 59, 60, 61, 62, 63, 64, 65, 66, 67, 68, 69, 70, 71, 173, 174, 175, 176, 177, 178, 179, 180, 181, 182, 183, 184, 185, 186] (by decide +kernel) (by decide +kernel)
set_option maxRecDepth 20000 in
theorem gX12_errors_X12_failsOfYield : GoodIn wsX12_errors (wsV RX12 310 RX12 yX12_failsOfYield wsX12_failsOfYield) := goodIn_app (goodIn_of _ (by decide +kernel)) ggX12_errors_X12_failsOfYield
set_option maxRecDepth 20000 in
theorem ggX12_errors_X12_isRate : GoodIn wsX12_errors wsX12_isRate := goodIn_r _ [125, 126, 127, 128, 4, 129] (by decide +kernel) (by decide +kernel)
set_option maxRecDepth 20000 in
theorem gX12_errors_X12_isRate : GoodIn wsX12_errors (va_wsS RX12 147 yX12_isRate wsX12_isRate) := goodIn_app (goodIn_of _ (by decide +kernel)) ggX12_errors_X12_isRate
set_option maxRecDepth 20000 in
theorem ggX12_errors_X12_passes : GoodIn wsX12_errors wsX12_passes := goodIn_r _ [133, 10, 173, 174, 175, 176, 177, 178, 179, 180, 181, 182, 183, 184] (by decide +kernel) (by decide +kernel)
set_option maxRecDepth 20000 in
theorem gX12_errors_X12_passes : GoodIn wsX12_errors (wsV RX12 95 RX12 yX12_passes wsX12_passes) := goodIn_app (goodIn_of _ (by decide +kernel)) ggX12_errors_X12_passes
set_option maxRecDepth 20000 in
theorem ggX12_failsOfParts_X12_allWeights : GoodIn wsX12_failsOfParts wsX12_allWeights := goodIn_r _ [7, 2, 8, 15, 16, 17, 18, 19, 20, 21, 22, 23, 24, 25, 26] (by decide +kernel) (by decide +kernel)
set_option maxRecDepth 20000 in
theorem gX12_failsOfParts_X12_allWeights : GoodIn wsX12_failsOfParts (wsV RX12 280 RX12 yX12_allWeights wsX12_allWeights) := goodIn_app (goodIn_of _ (by decide +kernel)) ggX12_failsOfParts_X12_allWeights
set_option maxRecDepth 20000 in
theorem ggX12_failsOfYield_X12_changes : GoodIn wsX12_failsOfYield wsX12_changes := goodIn_r _ [5, 6, 7, 68, 69, 70, 71, 72, 73, 74, 75, 76, 77, 78, 79] (by decide +kernel) (by decide +kernel)
set_option maxRecDepth 20000 in
theorem gX12_failsOfYield_X12_changes : GoodIn wsX12_failsOfYield (wsV RX12 161 RX12 yX12_changes wsX12_changes) := goodIn_app (goodIn_of _ (by decide +kernel)) ggX12_failsOfYield_X12_changes
set_option maxRecDepth 20000 in
theorem ggX12_holiday_X12_hasLoan : GoodIn wsX12_holiday wsX12_hasLoan := goodIn_r _ [6, 1, 7, 208, 209, 210, 211, 212, 213, 214, 215, 216, 217, 218, 219] (by decide +kernel) (by decide +kernel)
set_option maxRecDepth 20000 in
theorem gX12_holiday_X12_hasLoan : GoodIn wsX12_holiday (wsV RX12 226 RX12 yX12_hasLoan wsX12_hasLoan) := goodIn_app (goodIn_of _ (by decide +kernel)) ggX12_holiday_X12_hasLoan
set_option maxRecDepth 20000 in
theorem ggX12_isAmount_X12_in : GoodIn wsX12_isAmount wsX12_in := goodIn_r _ [6] (by decide +kernel) (by decide +kernel)
set_option maxRecDepth 20000 in
theorem gX12_isAmount_X12_in : GoodIn wsX12_isAmount (va_wsS RX12 91 yX12_in wsX12_in) := goodIn_app (goodIn_of _ (by decide +kernel)) ggX12_isAmount_X12_in
set_option maxRecDepth 20000 in
theorem ggX12_isRate_X12_in : GoodIn wsX12_isRate wsX12_in := goodIn_r _ [5] (by decide +kernel) (by decide +kernel)
set_option maxRecDepth 20000 in
theorem gX12_isRate_X12_in : GoodIn wsX12_isRate (va_wsS RX12 91 yX12_in wsX12_in) := goodIn_app (goodIn_of _ (by decide +kernel)) ggX12_isRate_X12_in
set_option maxRecDepth 20000 in
theorem ggX12_leaves_X12_thousandfold : GoodIn wsX12_leaves wsX12_thousandfold := goodIn_r _ [6, 7, 8, 9, 10, 11, 12, 13, 14, 15, 16, 17, 18, 19, 20, 21, 22, 23, 24, 25, 26, 27, 28] (by decide +kernel) (by decide +kernel)
set_option maxRecDepth 20000 in
theorem gX12_leaves_X12_thousandfold : GoodIn wsX12_leaves (wsV RX12 297 RX12 yX12_thousandfold wsX12_thousandfold) := goodIn_app (goodIn_of _ (by decide +kernel)) ggX12_leaves_X12_thousandfold
set_option maxRecDepth 20000 in
theorem ggX12_live_X12_in : GoodIn wsX12_live wsX12_in := goodIn_r _ [7] (by decide +kernel) (by decide +kernel)
set_option maxRecDepth 20000 in
theorem gX12_live_X12_in : GoodIn wsX12_live (va_wsS RX12 91 yX12_in wsX12_in) := goodIn_app (goodIn_of _ (by decide +kernel)) ggX12_live_X12_in
set_option maxRecDepth 20000 in
theorem ggX12_live_X12_passes : GoodIn wsX12_live wsX12_passes := goodIn_r _ [11, 12, 13, 14, 15, 16, 17, 18, 19, 20, 21, 22, 23, 24] (by decide +kernel) (by decide +kernel)
set_option maxRecDepth 20000 in
theorem gX12_live_X12_passes : GoodIn wsX12_live (wsV RX12 95 RX12 yX12_passes wsX12_passes) := goodIn_app (goodIn_of _ (by decide +kernel)) ggX12_live_X12_passes
set_option maxRecDepth 20000 in
theorem ggX12_part_X12_in : GoodIn wsX12_part wsX12_in := goodIn_r _ [6] (by decide +kernel) (by decide +kernel)
set_option maxRecDepth 20000 in
theorem gX12_part_X12_in : GoodIn wsX12_part (va_wsS RX12 91 yX12_in wsX12_in) := goodIn_app (goodIn_of _ (by decide +kernel)) ggX12_part_X12_in
set_option maxRecDepth 20000 in
theorem ggX12_part_X12_passes : GoodIn wsX12_part wsX12_passes := goodIn_r _ [15, 16, 23, 24, 25, 26, 27, 28, 29, 30, 31, 32, 33, 34] (by decide +kernel) (by decide +kernel)
set_option maxRecDepth 20000 in
theorem gX12_part_X12_passes : GoodIn wsX12_part (wsV RX12 95 RX12 yX12_passes wsX12_passes) := goodIn_app (goodIn_of _ (by decide +kernel)) ggX12_part_X12_passes
set_option maxRecDepth 20000 in
theorem ggX12_pay_X12_in : GoodIn wsX12_pay wsX12_in := goodIn_r _ [6] (by decide +kernel) (by decide +kernel)
set_option maxRecDepth 20000 in
theorem gX12_pay_X12_in : GoodIn wsX12_pay (va_wsS RX12 91 yX12_in wsX12_in) := goodIn_app (goodIn_of _ (by decide +kernel)) ggX12_pay_X12_in
set_option maxRecDepth 20000 in
theorem ggX12_pay_X12_isAmount : GoodIn wsX12_pay wsX12_isAmount := goodIn_r _ [9, 10, 11, 3, 4, 5, 6] (by decide +kernel) (by decide +kernel)
set_option maxRecDepth 20000 in
theorem gX12_pay_X12_isAmount : GoodIn wsX12_pay (va_wsS RX12 127 yX12_isAmount wsX12_isAmount) := goodIn_app (goodIn_of _ (by decide +kernel)) ggX12_pay_X12_isAmount
set_option maxRecDepth 20000 in
theorem ggX12_pay_X12_passes : GoodIn wsX12_pay wsX12_passes := goodIn_r _ [15, 16, 17, 18, 19, 20, 21, 22, 23, 24, 25, 26, 27, 28] (by decide +kernel) (by decide +kernel)
set_option maxRecDepth 20000 in
theorem gX12_pay_X12_passes : GoodIn wsX12_pay (wsV RX12 95 RX12 yX12_passes wsX12_passes) := goodIn_app (goodIn_of _ (by decide +kernel)) ggX12_pay_X12_passes
set_option maxRecDepth 20000 in
theorem ggX12_round_X11_of : GoodIn wsX12_round wsX11_of := goodIn_r _ [12, 13, 14, 15, 16, 17, 18, 19, 20, 11, 21, 22, 23, 24, 25, 26, 27, 28, 122, 123] (by decide +kernel) (by decide +kernel)
set_option maxRecDepth 20000 in
theorem gX12_round_X11_of : GoodIn wsX12_round (va_wsS RX12 7 yX11_of wsX11_of) := goodIn_app (goodIn_of _ (by decide +kernel)) ggX12_round_X11_of
set_option maxRecDepth 20000 in
theorem ggX12_round_X11_times : GoodIn wsX12_round wsX11_times := goodIn_r _ [35, 28, 13, 19, 20, 11, 27, 36, 37, 38, 39, 21, 22, 23, 24, 25, 26, 122, 123] (by decide +kernel) (by decide +kernel)
set_option maxRecDepth 20000 in
theorem gX12_round_X11_times : GoodIn wsX12_round (wsV RX12 13 RX11 yX11_times wsX11_times) := goodIn_app (goodIn_of _ (by decide +kernel)) ggX12_round_X11_times
set_option maxRecDepth 20000 in
theorem ggX12_round_X12_in : GoodIn wsX12_round wsX12_in := goodIn_r _ [8] (by decide +kernel) (by decide +kernel)
set_option maxRecDepth 20000 in
theorem gX12_round_X12_in : GoodIn wsX12_round (va_wsS RX12 91 yX12_in wsX12_in) := goodIn_app (goodIn_of _ (by decide +kernel)) ggX12_round_X12_in
set_option maxRecDepth 20000 in
theorem ggX12_round_X12_passes : GoodIn wsX12_round wsX12_passes := goodIn_r _ [112, 113, 124, 125, 126, 127, 128, 129, 130, 131, 132, 133, 134, 135] (by decide +kernel) (by decide +kernel)
set_option maxRecDepth 20000 in
theorem gX12_round_X12_passes : GoodIn wsX12_round (wsV RX12 95 RX12 yX12_passes wsX12_passes) := goodIn_app (goodIn_of _ (by decide +kernel)) ggX12_round_X12_passes
set_option maxRecDepth 20000 in
theorem ggX12_round_X12_raised : GoodIn wsX12_round wsX12_raised := goodIn_r _ [31, 9, 10, 11, 12, 13, 14, 15, 16, 17, 18, 19, 20, 21, 22, 23, 24, 25, 26, 27, 28, 32, 33, 34, 35, 36, 37, 38, 39, 122, 123] (by decide +kernel) (by decide +kernel)
set_option maxRecDepth 20000 in
theorem gX12_round_X12_raised : GoodIn wsX12_round (va_wsS RX12 107 yX12_raised wsX12_raised) := goodIn_app (goodIn_of _ (by decide +kernel)) ggX12_round_X12_raised
set_option maxRecDepth 20000 in
theorem ggX12_round_X12_rounded : GoodIn wsX12_round wsX12_rounded := goodIn_r _ [43, 44, 45, 46, 47, 48, 11, 49, 27, 50, 51, 52, 53, 19, 20, 28, 21, 22, 23, 24, 25, 26, 13, 54, 55, 56, 57, 58, 10, 12, 14, 15, 16, 17, 18, 59, 60, 61, 62, 63, 64, 65, 66, 67, 68, 69, 70, 71, 72, 73, 74, 36, 37, 38, 39, 75, 76, 77, 78, 79, 80, 81, 33, 34, 35, 82, 83, 84, 85, 86, 87, 88, 89, 90, 91, 92, 93, 94, 95, 96, 97, 98, 99, 100, 101, 102, 103, 104, 105, 106, 7, 107, 9, 108, 124, 125, 126, 127, 128, 129, 130, 131, 132, 133, 134, 135, 122, 123] (by decide +kernel) (by decide +kernel)
set_option maxRecDepth 20000 in
theorem gX12_round_X12_rounded : GoodIn wsX12_round (wsV RX12 111 RX12 yX12_rounded wsX12_rounded) := goodIn_app (goodIn_of _ (by decide +kernel)) ggX12_round_X12_rounded
set_option maxRecDepth 20000 in
theorem ggX12_round_X12_tells : GoodIn wsX12_round wsX12_tells := goodIn_r _ [117, 118, 119, 120, 11, 121, 28, 14, 27, 122, 123] (by decide +kernel) (by decide +kernel)
set_option maxRecDepth 20000 in
theorem gX12_round_X12_tells : GoodIn wsX12_round (wsV RX12 115 RX12 yX12_tells wsX12_tells) := goodIn_app (goodIn_of _ (by decide +kernel)) ggX12_round_X12_tells
set_option maxRecDepth 20000 in
theorem ggX12_rowOf_X12_hasLoan : GoodIn wsX12_rowOf wsX12_hasLoan := goodIn_r _ [8, 9, 10, 41, 42, 43, 44, 45, 46, 47, 48, 49, 50, 51, 52] (by decide +kernel) (by decide +kernel)
set_option maxRecDepth 20000 in
theorem gX12_rowOf_X12_hasLoan : GoodIn wsX12_rowOf (wsV RX12 226 RX12 yX12_hasLoan wsX12_hasLoan) := goodIn_app (goodIn_of _ (by decide +kernel)) ggX12_rowOf_X12_hasLoan
set_option maxRecDepth 20000 in
theorem ggX12_rowYield_X12_changes : GoodIn wsX12_rowYield wsX12_changes := goodIn_r _ [5, 6, 7, 72, 73, 74, 75, 76, 77, 78, 79, 80, 81, 82, 83] (by decide +kernel) (by decide +kernel)
set_option maxRecDepth 20000 in
theorem gX12_rowYield_X12_changes : GoodIn wsX12_rowYield (wsV RX12 161 RX12 yX12_changes wsX12_changes) := goodIn_app (goodIn_of _ (by decide +kernel)) ggX12_rowYield_X12_changes
set_option maxRecDepth 20000 in
theorem ggX12_rowYield_X12_passes : GoodIn wsX12_rowYield wsX12_passes := goodIn_r _ [11, 6, 72, 73, 74, 75, 76, 77, 78, 79, 80, 81, 82, 83] (by decide +kernel) (by decide +kernel)
set_option maxRecDepth 20000 in
theorem gX12_rowYield_X12_passes : GoodIn wsX12_rowYield (wsV RX12 95 RX12 yX12_passes wsX12_passes) := goodIn_app (goodIn_of _ (by decide +kernel)) ggX12_rowYield_X12_passes
set_option maxRecDepth 20000 in
theorem ggX12_rows_X12_hasLoan : GoodIn wsX12_rows wsX12_hasLoan := goodIn_r _ [6, 7, 8, 15, 16, 17, 18, 19, 20, 21, 22, 23, 24, 25, 26] (by decide +kernel) (by decide +kernel)
set_option maxRecDepth 20000 in
theorem gX12_rows_X12_hasLoan : GoodIn wsX12_rows (wsV RX12 226 RX12 yX12_hasLoan wsX12_hasLoan) := goodIn_app (goodIn_of _ (by decide +kernel)) ggX12_rows_X12_hasLoan
set_option maxRecDepth 20000 in
theorem ggX12_setMode_X12_in : GoodIn wsX12_setMode wsX12_in := goodIn_r _ [6] (by decide +kernel) (by decide +kernel)
set_option maxRecDepth 20000 in
theorem gX12_setMode_X12_in : GoodIn wsX12_setMode (va_wsS RX12 91 yX12_in wsX12_in) := goodIn_app (goodIn_of _ (by decide +kernel)) ggX12_setMode_X12_in
set_option maxRecDepth 20000 in
theorem ggX12_setMode_X12_passes : GoodIn wsX12_setMode wsX12_passes := goodIn_r _ [10, 11, 12, 13, 14, 15, 16, 17, 18, 19, 20, 21, 22, 23] (by decide +kernel) (by decide +kernel)
set_option maxRecDepth 20000 in
theorem gX12_setMode_X12_passes : GoodIn wsX12_setMode (wsV RX12 95 RX12 yX12_passes wsX12_passes) := goodIn_app (goodIn_of _ (by decide +kernel)) ggX12_setMode_X12_passes
set_option maxRecDepth 20000 in
theorem ggX12_step_X12_in : GoodIn wsX12_step wsX12_in := goodIn_r _ [9] (by decide +kernel) (by decide +kernel)
set_option maxRecDepth 20000 in
theorem gX12_step_X12_in : GoodIn wsX12_step (va_wsS RX12 91 yX12_in wsX12_in) := goodIn_app (goodIn_of _ (by decide +kernel)) ggX12_step_X12_in
set_option maxRecDepth 20000 in
theorem ggX12_step_X12_passes : GoodIn wsX12_step wsX12_passes := goodIn_r _ [13, 14, 15, 16, 17, 18, 19, 20, 21, 22, 23, 24, 25, 26] (by decide +kernel) (by decide +kernel)
set_option maxRecDepth 20000 in
theorem gX12_step_X12_passes : GoodIn wsX12_step (wsV RX12 95 RX12 yX12_passes wsX12_passes) := goodIn_app (goodIn_of _ (by decide +kernel)) ggX12_step_X12_passes
set_option maxRecDepth 20000 in
theorem ggX12_tax_X11_of : GoodIn wsX12_tax wsX11_of := goodIn_r _ [24, 25, 26, 27, 28, 15, 29, 30, 31, 23, 32, 33, 34, 35, 36, 37, 38, 39, 141, 142] (by decide +kernel) (by decide +kernel)
set_option maxRecDepth 20000 in
theorem gX12_tax_X11_of : GoodIn wsX12_tax (va_wsS RX12 7 yX11_of wsX11_of) := goodIn_app (goodIn_of _ (by decide +kernel)) ggX12_tax_X11_of
set_option maxRecDepth 20000 in
theorem ggX12_tax_X12_in : GoodIn wsX12_tax wsX12_in := goodIn_r _ [6] (by decide +kernel) (by decide +kernel)
set_option maxRecDepth 20000 in
theorem gX12_tax_X12_in : GoodIn wsX12_tax (va_wsS RX12 91 yX12_in wsX12_in) := goodIn_app (goodIn_of _ (by decide +kernel)) ggX12_tax_X12_in
set_option maxRecDepth 20000 in
theorem ggX12_tax_X12_passes : GoodIn wsX12_tax wsX12_passes := goodIn_r _ [119, 120, 129, 130, 131, 132, 133, 134, 135, 136, 137, 138, 139, 140] (by decide +kernel) (by decide +kernel)
set_option maxRecDepth 20000 in
theorem gX12_tax_X12_passes : GoodIn wsX12_tax (wsV RX12 95 RX12 yX12_passes wsX12_passes) := goodIn_app (goodIn_of _ (by decide +kernel)) ggX12_tax_X12_passes
set_option maxRecDepth 20000 in
theorem ggX12_tax_X12_rounded : GoodIn wsX12_tax wsX12_rounded := goodIn_r _ [43, 44, 45, 46, 47, 48, 23, 49, 38, 50, 51, 52, 53, 30, 31, 39, 32, 33, 34, 35, 36, 37, 25, 54, 55, 56, 57, 58, 22, 24, 26, 27, 28, 15, 29, 59, 60, 61, 62, 63, 64, 65, 66, 67, 68, 69, 70, 71, 72, 73, 74, 75, 76, 77, 78, 79, 80, 81, 82, 83, 84, 85, 86, 87, 88, 89, 90, 91, 92, 93, 94, 95, 96, 97, 98, 99, 100, 101, 102, 103, 104, 105, 106, 107, 108, 109, 110, 111, 112, 113, 5, 114, 21, 115, 129, 130, 131, 132, 133, 134, 135, 136, 137, 138, 139, 140, 141, 142] (by decide +kernel) (by decide +kernel)
set_option maxRecDepth 20000 in
theorem gX12_tax_X12_rounded : GoodIn wsX12_tax (wsV RX12 111 RX12 yX12_rounded wsX12_rounded) := goodIn_app (goodIn_of _ (by decide +kernel)) ggX12_tax_X12_rounded
set_option maxRecDepth 20000 in
theorem ggX12_tax_X12_tells : GoodIn wsX12_tax wsX12_tells := goodIn_r _ [124, 125, 126, 127, 23, 128, 39, 26, 38, 141, 142] (by decide +kernel) (by decide +kernel)
set_option maxRecDepth 20000 in
theorem gX12_tax_X12_tells : GoodIn wsX12_tax (wsV RX12 115 RX12 yX12_tells wsX12_tells) := goodIn_app (goodIn_of _ (by decide +kernel)) ggX12_tax_X12_tells
set_option maxRecDepth 20000 in
theorem ggX12_tax_X12_thousandfold : GoodIn wsX12_tax wsX12_thousandfold := goodIn_r _ [10, 11, 12, 13, 14, 15, 16, 17, 18, 19, 20, 129, 130, 131, 132, 133, 134, 135, 136, 137, 138, 139, 140] (by decide +kernel) (by decide +kernel)
set_option maxRecDepth 20000 in
theorem gX12_tax_X12_thousandfold : GoodIn wsX12_tax (wsV RX12 297 RX12 yX12_thousandfold wsX12_thousandfold) := goodIn_app (goodIn_of _ (by decide +kernel)) ggX12_tax_X12_thousandfold
set_option maxRecDepth 20000 in
theorem ggX12_total_X12_hasLoan : GoodIn wsX12_total wsX12_hasLoan := goodIn_r _ [6, 7, 8, 45, 46, 47, 48, 49, 50, 51, 52, 53, 54, 55, 56] (by decide +kernel) (by decide +kernel)
set_option maxRecDepth 20000 in
theorem gX12_total_X12_hasLoan : GoodIn wsX12_total (wsV RX12 226 RX12 yX12_hasLoan wsX12_hasLoan) := goodIn_app (goodIn_of _ (by decide +kernel)) ggX12_total_X12_hasLoan
set_option maxRecDepth 20000 in
theorem ggX12_untaxed_X12_in : GoodIn wsX12_untaxed wsX12_in := goodIn_r _ [8] (by decide +kernel) (by decide +kernel)
set_option maxRecDepth 20000 in
theorem gX12_untaxed_X12_in : GoodIn wsX12_untaxed (va_wsS RX12 91 yX12_in wsX12_in) := goodIn_app (goodIn_of _ (by decide +kernel)) ggX12_untaxed_X12_in
set_option maxRecDepth 20000 in
theorem ggX12_untaxed_X12_leaves : GoodIn wsX12_untaxed wsX12_leaves := goodIn_r _ [17, 18, 19, 20, 21, 7, 22, 23, 24, 25, 26, 27, 28, 29, 30, 31, 32, 33, 34, 35, 36, 37, 38, 39, 40, 41, 42, 43, 44] (by decide +kernel) (by decide +kernel)
set_option maxRecDepth 20000 in
theorem gX12_untaxed_X12_leaves : GoodIn wsX12_untaxed (wsV RX12 300 RX12 yX12_leaves wsX12_leaves) := goodIn_app (goodIn_of _ (by decide +kernel)) ggX12_untaxed_X12_leaves
set_option maxRecDepth 20000 in
theorem ggX12_untaxed_X12_passes : GoodIn wsX12_untaxed wsX12_passes := goodIn_r _ [12, 13, 33, 34, 35, 36, 37, 38, 39, 40, 41, 42, 43, 44] (by decide +kernel) (by decide +kernel)
set_option maxRecDepth 20000 in
theorem gX12_untaxed_X12_passes : GoodIn wsX12_untaxed (wsV RX12 95 RX12 yX12_passes wsX12_passes) := goodIn_app (goodIn_of _ (by decide +kernel)) ggX12_untaxed_X12_passes
set_option maxRecDepth 20000 in
theorem ggX12_weigh_X12_in : GoodIn wsX12_weigh wsX12_in := goodIn_r _ [7] (by decide +kernel) (by decide +kernel)
set_option maxRecDepth 20000 in
theorem gX12_weigh_X12_in : GoodIn wsX12_weigh (va_wsS RX12 91 yX12_in wsX12_in) := goodIn_app (goodIn_of _ (by decide +kernel)) ggX12_weigh_X12_in
set_option maxRecDepth 20000 in
theorem ggX12_weigh_X12_passes : GoodIn wsX12_weigh wsX12_passes := goodIn_r _ [11, 12, 13, 14, 15, 16, 17, 18, 19, 20, 21, 22, 23, 24] (by decide +kernel) (by decide +kernel)
set_option maxRecDepth 20000 in
theorem gX12_weigh_X12_passes : GoodIn wsX12_weigh (wsV RX12 95 RX12 yX12_passes wsX12_passes) := goodIn_app (goodIn_of _ (by decide +kernel)) ggX12_weigh_X12_passes
