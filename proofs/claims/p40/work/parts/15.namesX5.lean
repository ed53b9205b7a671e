-- printed rows that the walks use
theorem dJ7_fill_d0a16_0 : decode cJ7_fill_d0a16 0 = .ok (.iconst 0, 1) := by decide +kernel
theorem dJ7_fill_d0a16_1 : decode cJ7_fill_d0a16 1 = .ok (.istore_n 3, 1) := by decide +kernel
theorem dJ7_fill_d0a16_12 : decode cJ7_fill_d0a16 12 = .ok (.aload_n 0, 1) := by decide +kernel
theorem dJ7_fill_d0a16_13 : decode cJ7_fill_d0a16 13 = .ok (.iload_n 3, 1) := by decide +kernel
theorem dJ7_fill_d0a16_14 : decode cJ7_fill_d0a16 14 = .ok (.lload_n 1, 1) := by decide +kernel
theorem dJ7_fill_d0a16_15 : decode cJ7_fill_d0a16 15 = .ok (.lastore, 1) := by decide +kernel
theorem dJ7_fill_d0a16_16 : decode cJ7_fill_d0a16 16 = .ok (.iinc 3 1, 3) := by decide +kernel
theorem dJ7_fill_d0a16_19 : decode cJ7_fill_d0a16 19 = .ok (.goto (-13), 3) := by decide +kernel
theorem dJ7_fill_d0a16_2 : decode cJ7_fill_d0a16 2 = .ok (.aload_n 0, 1) := by decide +kernel
theorem dJ7_fill_d0a16_22 : decode cJ7_fill_d0a16 22 = .ok (.return_, 1) := by decide +kernel
theorem dJ7_fill_d0a16_3 : decode cJ7_fill_d0a16 3 = .ok (.arraylength, 1) := by decide +kernel
theorem dJ7_fill_d0a16_4 : decode cJ7_fill_d0a16 4 = .ok (.istore 4, 2) := by decide +kernel
theorem dJ7_fill_d0a16_6 : decode cJ7_fill_d0a16 6 = .ok (.iload_n 3, 1) := by decide +kernel
theorem dJ7_fill_d0a16_7 : decode cJ7_fill_d0a16 7 = .ok (.iload 4, 2) := by decide +kernel
theorem dJ7_fill_d0a16_9 : decode cJ7_fill_d0a16 9 = .ok (.if_icmp .ge 13, 3) := by decide +kernel
theorem dX5_add_0 : decode cX5_add 0 = .ok (.iconst 0, 1) := by decide +kernel
theorem dX5_add_1 : decode cX5_add 1 = .ok (.istore 7, 2) := by decide +kernel
theorem dX5_add_10 : decode cX5_add 10 = .ok (.getfield 9, 3) := by decide +kernel
theorem dX5_add_13 : decode cX5_add 13 = .ok (.iload_n 1, 1) := by decide +kernel
theorem dX5_add_14 : decode cX5_add 14 = .ok (.iload 7, 2) := by decide +kernel
theorem dX5_add_16 : decode cX5_add 16 = .ok (.iadd, 1) := by decide +kernel
theorem dX5_add_17 : decode cX5_add 17 = .ok (.laload, 1) := by decide +kernel
theorem dX5_add_18 : decode cX5_add 18 = .ok (.lload_n 3, 1) := by decide +kernel
theorem dX5_add_19 : decode cX5_add 19 = .ok (.ladd, 1) := by decide +kernel
theorem dX5_add_20 : decode cX5_add 20 = .ok (.iload 7, 2) := by decide +kernel
theorem dX5_add_22 : decode cX5_add 22 = .ok (.i2l, 1) := by decide +kernel
theorem dX5_add_23 : decode cX5_add 23 = .ok (.lload 5, 2) := by decide +kernel
theorem dX5_add_25 : decode cX5_add 25 = .ok (.lmul, 1) := by decide +kernel
theorem dX5_add_26 : decode cX5_add 26 = .ok (.ladd, 1) := by decide +kernel
theorem dX5_add_27 : decode cX5_add 27 = .ok (.ldc2_w 25, 3) := by decide +kernel
theorem dX5_add_3 : decode cX5_add 3 = .ok (.iload 7, 2) := by decide +kernel
theorem dX5_add_30 : decode cX5_add 30 = .ok (.ldc2_w 27, 3) := by decide +kernel
theorem dX5_add_33 : decode cX5_add 33 = .ok (.invokestatic 29, 3) := by decide +kernel
theorem dX5_add_36 : decode cX5_add 36 = .ok (.invokestatic 33, 3) := by decide +kernel
theorem dX5_add_39 : decode cX5_add 39 = .ok (.iinc 7 1, 3) := by decide +kernel
theorem dX5_add_42 : decode cX5_add 42 = .ok (.goto (-39), 3) := by decide +kernel
theorem dX5_add_45 : decode cX5_add 45 = .ok (.iconst 0, 1) := by decide +kernel
theorem dX5_add_46 : decode cX5_add 46 = .ok (.istore 7, 2) := by decide +kernel
theorem dX5_add_48 : decode cX5_add 48 = .ok (.iload 7, 2) := by decide +kernel
theorem dX5_add_5 : decode cX5_add 5 = .ok (.iload_n 2, 1) := by decide +kernel
theorem dX5_add_50 : decode cX5_add 50 = .ok (.iload_n 2, 1) := by decide +kernel
theorem dX5_add_51 : decode cX5_add 51 = .ok (.if_icmp .ge 29, 3) := by decide +kernel
theorem dX5_add_54 : decode cX5_add 54 = .ok (.aload_n 0, 1) := by decide +kernel
theorem dX5_add_55 : decode cX5_add 55 = .ok (.getfield 9, 3) := by decide +kernel
theorem dX5_add_58 : decode cX5_add 58 = .ok (.iload_n 1, 1) := by decide +kernel
theorem dX5_add_59 : decode cX5_add 59 = .ok (.iload 7, 2) := by decide +kernel
theorem dX5_add_6 : decode cX5_add 6 = .ok (.if_icmp .ge 39, 3) := by decide +kernel
theorem dX5_add_61 : decode cX5_add 61 = .ok (.iadd, 1) := by decide +kernel
theorem dX5_add_62 : decode cX5_add 62 = .ok (.dup2, 1) := by decide +kernel
theorem dX5_add_63 : decode cX5_add 63 = .ok (.laload, 1) := by decide +kernel
theorem dX5_add_64 : decode cX5_add 64 = .ok (.lload_n 3, 1) := by decide +kernel
theorem dX5_add_65 : decode cX5_add 65 = .ok (.iload 7, 2) := by decide +kernel
theorem dX5_add_67 : decode cX5_add 67 = .ok (.i2l, 1) := by decide +kernel
theorem dX5_add_68 : decode cX5_add 68 = .ok (.lload 5, 2) := by decide +kernel
theorem dX5_add_70 : decode cX5_add 70 = .ok (.lmul, 1) := by decide +kernel
theorem dX5_add_71 : decode cX5_add 71 = .ok (.ladd, 1) := by decide +kernel
theorem dX5_add_72 : decode cX5_add 72 = .ok (.ladd, 1) := by decide +kernel
theorem dX5_add_73 : decode cX5_add 73 = .ok (.lastore, 1) := by decide +kernel
theorem dX5_add_74 : decode cX5_add 74 = .ok (.iinc 7 1, 3) := by decide +kernel
theorem dX5_add_77 : decode cX5_add 77 = .ok (.goto (-29), 3) := by decide +kernel
theorem dX5_add_80 : decode cX5_add 80 = .ok (.return_, 1) := by decide +kernel
theorem dX5_add_9 : decode cX5_add 9 = .ok (.aload_n 0, 1) := by decide +kernel
theorem dX5_amountIn_0 : decode cX5_amountIn 0 = .ok (.aload_n 0, 1) := by decide +kernel
theorem dX5_amountIn_1 : decode cX5_amountIn 1 = .ok (.getfield 9, 3) := by decide +kernel
theorem dX5_amountIn_4 : decode cX5_amountIn 4 = .ok (.iload_n 1, 1) := by decide +kernel
theorem dX5_amountIn_5 : decode cX5_amountIn 5 = .ok (.laload, 1) := by decide +kernel
theorem dX5_amountIn_6 : decode cX5_amountIn 6 = .ok (.lreturn, 1) := by decide +kernel
theorem dX5_carry_0 : decode cX5_carry 0 = .ok (.aload_n 0, 1) := by decide +kernel
theorem dX5_carry_1 : decode cX5_carry 1 = .ok (.getfield 18, 3) := by decide +kernel
theorem dX5_carry_10 : decode cX5_carry 10 = .ok (.laload, 1) := by decide +kernel
theorem dX5_carry_11 : decode cX5_carry 11 = .ok (.invokevirtual 106, 3) := by decide +kernel
theorem dX5_carry_14 : decode cX5_carry 14 = .ok (.iconst 1, 1) := by decide +kernel
theorem dX5_carry_15 : decode cX5_carry 15 = .ok (.istore_n 3, 1) := by decide +kernel
theorem dX5_carry_16 : decode cX5_carry 16 = .ok (.iload_n 3, 1) := by decide +kernel
theorem dX5_carry_17 : decode cX5_carry 17 = .ok (.iload_n 2, 1) := by decide +kernel
theorem dX5_carry_18 : decode cX5_carry 18 = .ok (.if_icmp .gt 22, 3) := by decide +kernel
theorem dX5_carry_21 : decode cX5_carry 21 = .ok (.aload_n 0, 1) := by decide +kernel
theorem dX5_carry_22 : decode cX5_carry 22 = .ok (.getfield 18, 3) := by decide +kernel
theorem dX5_carry_25 : decode cX5_carry 25 = .ok (.aload_n 0, 1) := by decide +kernel
theorem dX5_carry_26 : decode cX5_carry 26 = .ok (.getfield 9, 3) := by decide +kernel
theorem dX5_carry_29 : decode cX5_carry 29 = .ok (.iload_n 3, 1) := by decide +kernel
theorem dX5_carry_30 : decode cX5_carry 30 = .ok (.laload, 1) := by decide +kernel
theorem dX5_carry_31 : decode cX5_carry 31 = .ok (.invokevirtual 96, 3) := by decide +kernel
theorem dX5_carry_34 : decode cX5_carry 34 = .ok (.iinc 3 1, 3) := by decide +kernel
theorem dX5_carry_37 : decode cX5_carry 37 = .ok (.goto (-21), 3) := by decide +kernel
theorem dX5_carry_4 : decode cX5_carry 4 = .ok (.iload_n 1, 1) := by decide +kernel
theorem dX5_carry_40 : decode cX5_carry 40 = .ok (.return_, 1) := by decide +kernel
theorem dX5_carry_5 : decode cX5_carry 5 = .ok (.aload_n 0, 1) := by decide +kernel
theorem dX5_carry_6 : decode cX5_carry 6 = .ok (.getfield 9, 3) := by decide +kernel
theorem dX5_carry_9 : decode cX5_carry 9 = .ok (.iconst 0, 1) := by decide +kernel
theorem dX5_clear_0 : decode cX5_clear 0 = .ok (.aload_n 0, 1) := by decide +kernel
theorem dX5_clear_1 : decode cX5_clear 1 = .ok (.getfield 9, 3) := by decide +kernel
theorem dX5_clear_4 : decode cX5_clear 4 = .ok (.lconst 0, 1) := by decide +kernel
theorem dX5_clear_5 : decode cX5_clear 5 = .ok (.invokestatic 37, 3) := by decide +kernel
theorem dX5_clear_8 : decode cX5_clear 8 = .ok (.return_, 1) := by decide +kernel
theorem dX5_countChanges_0 : decode cX5_countChanges 0 = .ok (.iconst 0, 1) := by decide +kernel
theorem dX5_countChanges_1 : decode cX5_countChanges 1 = .ok (.istore_n 1, 1) := by decide +kernel
theorem dX5_countChanges_10 : decode cX5_countChanges 10 = .ok (.aload 4, 2) := by decide +kernel
theorem dX5_countChanges_12 : decode cX5_countChanges 12 = .ok (.arraylength, 1) := by decide +kernel
theorem dX5_countChanges_13 : decode cX5_countChanges 13 = .ok (.istore 5, 2) := by decide +kernel
theorem dX5_countChanges_15 : decode cX5_countChanges 15 = .ok (.iconst 0, 1) := by decide +kernel
theorem dX5_countChanges_16 : decode cX5_countChanges 16 = .ok (.istore 6, 2) := by decide +kernel
theorem dX5_countChanges_18 : decode cX5_countChanges 18 = .ok (.iload 6, 2) := by decide +kernel
theorem dX5_countChanges_2 : decode cX5_countChanges 2 = .ok (.lconst 0, 1) := by decide +kernel
theorem dX5_countChanges_20 : decode cX5_countChanges 20 = .ok (.iload 5, 2) := by decide +kernel
theorem dX5_countChanges_22 : decode cX5_countChanges 22 = .ok (.if_icmp .ge 66, 3) := by decide +kernel
theorem dX5_countChanges_25 : decode cX5_countChanges 25 = .ok (.aload 4, 2) := by decide +kernel
theorem dX5_countChanges_27 : decode cX5_countChanges 27 = .ok (.iload 6, 2) := by decide +kernel
theorem dX5_countChanges_29 : decode cX5_countChanges 29 = .ok (.laload, 1) := by decide +kernel
theorem dX5_countChanges_3 : decode cX5_countChanges 3 = .ok (.lstore_n 2, 1) := by decide +kernel
theorem dX5_countChanges_30 : decode cX5_countChanges 30 = .ok (.lstore 7, 2) := by decide +kernel
theorem dX5_countChanges_32 : decode cX5_countChanges 32 = .ok (.lload 7, 2) := by decide +kernel
theorem dX5_countChanges_34 : decode cX5_countChanges 34 = .ok (.lconst 0, 1) := by decide +kernel
theorem dX5_countChanges_35 : decode cX5_countChanges 35 = .ok (.lcmp, 1) := by decide +kernel
theorem dX5_countChanges_36 : decode cX5_countChanges 36 = .ok (.ifCond .eq 46, 3) := by decide +kernel
theorem dX5_countChanges_39 : decode cX5_countChanges 39 = .ok (.iload_n 1, 1) := by decide +kernel
theorem dX5_countChanges_4 : decode cX5_countChanges 4 = .ok (.aload_n 0, 1) := by decide +kernel
theorem dX5_countChanges_40 : decode cX5_countChanges 40 = .ok (.lload_n 2, 1) := by decide +kernel
theorem dX5_countChanges_41 : decode cX5_countChanges 41 = .ok (.lconst 0, 1) := by decide +kernel
theorem dX5_countChanges_42 : decode cX5_countChanges 42 = .ok (.lcmp, 1) := by decide +kernel
theorem dX5_countChanges_43 : decode cX5_countChanges 43 = .ok (.ifCond .eq 33, 3) := by decide +kernel
theorem dX5_countChanges_46 : decode cX5_countChanges 46 = .ok (.lload_n 2, 1) := by decide +kernel
theorem dX5_countChanges_47 : decode cX5_countChanges 47 = .ok (.lconst 0, 1) := by decide +kernel
theorem dX5_countChanges_48 : decode cX5_countChanges 48 = .ok (.lcmp, 1) := by decide +kernel
theorem dX5_countChanges_49 : decode cX5_countChanges 49 = .ok (.ifCond .ge 7, 3) := by decide +kernel
theorem dX5_countChanges_5 : decode cX5_countChanges 5 = .ok (.getfield 9, 3) := by decide +kernel
theorem dX5_countChanges_52 : decode cX5_countChanges 52 = .ok (.iconst 1, 1) := by decide +kernel
theorem dX5_countChanges_53 : decode cX5_countChanges 53 = .ok (.goto 4, 3) := by decide +kernel
theorem dX5_countChanges_56 : decode cX5_countChanges 56 = .ok (.iconst 0, 1) := by decide +kernel
theorem dX5_countChanges_57 : decode cX5_countChanges 57 = .ok (.lload 7, 2) := by decide +kernel
theorem dX5_countChanges_59 : decode cX5_countChanges 59 = .ok (.lconst 0, 1) := by decide +kernel
theorem dX5_countChanges_60 : decode cX5_countChanges 60 = .ok (.lcmp, 1) := by decide +kernel
theorem dX5_countChanges_61 : decode cX5_countChanges 61 = .ok (.ifCond .ge 7, 3) := by decide +kernel
theorem dX5_countChanges_64 : decode cX5_countChanges 64 = .ok (.iconst 1, 1) := by decide +kernel
theorem dX5_countChanges_65 : decode cX5_countChanges 65 = .ok (.goto 4, 3) := by decide +kernel
theorem dX5_countChanges_68 : decode cX5_countChanges 68 = .ok (.iconst 0, 1) := by decide +kernel
theorem dX5_countChanges_69 : decode cX5_countChanges 69 = .ok (.if_icmp .eq 7, 3) := by decide +kernel
theorem dX5_countChanges_72 : decode cX5_countChanges 72 = .ok (.iconst 1, 1) := by decide +kernel
theorem dX5_countChanges_73 : decode cX5_countChanges 73 = .ok (.goto 4, 3) := by decide +kernel
theorem dX5_countChanges_76 : decode cX5_countChanges 76 = .ok (.iconst 0, 1) := by decide +kernel
theorem dX5_countChanges_77 : decode cX5_countChanges 77 = .ok (.iadd, 1) := by decide +kernel
theorem dX5_countChanges_78 : decode cX5_countChanges 78 = .ok (.istore_n 1, 1) := by decide +kernel
theorem dX5_countChanges_79 : decode cX5_countChanges 79 = .ok (.lload 7, 2) := by decide +kernel
theorem dX5_countChanges_8 : decode cX5_countChanges 8 = .ok (.astore 4, 2) := by decide +kernel
theorem dX5_countChanges_81 : decode cX5_countChanges 81 = .ok (.lstore_n 2, 1) := by decide +kernel
theorem dX5_countChanges_82 : decode cX5_countChanges 82 = .ok (.iinc 6 1, 3) := by decide +kernel
theorem dX5_countChanges_85 : decode cX5_countChanges 85 = .ok (.goto (-67), 3) := by decide +kernel
theorem dX5_countChanges_88 : decode cX5_countChanges 88 = .ok (.iload_n 1, 1) := by decide +kernel
theorem dX5_countChanges_89 : decode cX5_countChanges 89 = .ok (.ireturn, 1) := by decide +kernel
theorem dX5_countPaying_0 : decode cX5_countPaying 0 = .ok (.iconst 0, 1) := by decide +kernel
theorem dX5_countPaying_1 : decode cX5_countPaying 1 = .ok (.istore_n 1, 1) := by decide +kernel
theorem dX5_countPaying_10 : decode cX5_countPaying 10 = .ok (.iconst 0, 1) := by decide +kernel
theorem dX5_countPaying_11 : decode cX5_countPaying 11 = .ok (.istore 4, 2) := by decide +kernel
theorem dX5_countPaying_13 : decode cX5_countPaying 13 = .ok (.iload 4, 2) := by decide +kernel
theorem dX5_countPaying_15 : decode cX5_countPaying 15 = .ok (.iload_n 3, 1) := by decide +kernel
theorem dX5_countPaying_16 : decode cX5_countPaying 16 = .ok (.if_icmp .ge 30, 3) := by decide +kernel
theorem dX5_countPaying_19 : decode cX5_countPaying 19 = .ok (.aload_n 2, 1) := by decide +kernel
theorem dX5_countPaying_2 : decode cX5_countPaying 2 = .ok (.aload_n 0, 1) := by decide +kernel
theorem dX5_countPaying_20 : decode cX5_countPaying 20 = .ok (.iload 4, 2) := by decide +kernel
theorem dX5_countPaying_22 : decode cX5_countPaying 22 = .ok (.laload, 1) := by decide +kernel
theorem dX5_countPaying_23 : decode cX5_countPaying 23 = .ok (.lstore 5, 2) := by decide +kernel
theorem dX5_countPaying_25 : decode cX5_countPaying 25 = .ok (.iload_n 1, 1) := by decide +kernel
theorem dX5_countPaying_26 : decode cX5_countPaying 26 = .ok (.lload 5, 2) := by decide +kernel
theorem dX5_countPaying_28 : decode cX5_countPaying 28 = .ok (.lconst 0, 1) := by decide +kernel
theorem dX5_countPaying_29 : decode cX5_countPaying 29 = .ok (.lcmp, 1) := by decide +kernel
theorem dX5_countPaying_3 : decode cX5_countPaying 3 = .ok (.getfield 9, 3) := by decide +kernel
theorem dX5_countPaying_30 : decode cX5_countPaying 30 = .ok (.ifCond .eq 7, 3) := by decide +kernel
theorem dX5_countPaying_33 : decode cX5_countPaying 33 = .ok (.iconst 1, 1) := by decide +kernel
theorem dX5_countPaying_34 : decode cX5_countPaying 34 = .ok (.goto 4, 3) := by decide +kernel
theorem dX5_countPaying_37 : decode cX5_countPaying 37 = .ok (.iconst 0, 1) := by decide +kernel
theorem dX5_countPaying_38 : decode cX5_countPaying 38 = .ok (.iadd, 1) := by decide +kernel
theorem dX5_countPaying_39 : decode cX5_countPaying 39 = .ok (.istore_n 1, 1) := by decide +kernel
theorem dX5_countPaying_40 : decode cX5_countPaying 40 = .ok (.iinc 4 1, 3) := by decide +kernel
theorem dX5_countPaying_43 : decode cX5_countPaying 43 = .ok (.goto (-30), 3) := by decide +kernel
theorem dX5_countPaying_46 : decode cX5_countPaying 46 = .ok (.iload_n 1, 1) := by decide +kernel
theorem dX5_countPaying_47 : decode cX5_countPaying 47 = .ok (.ireturn, 1) := by decide +kernel
theorem dX5_countPaying_6 : decode cX5_countPaying 6 = .ok (.astore_n 2, 1) := by decide +kernel
theorem dX5_countPaying_7 : decode cX5_countPaying 7 = .ok (.aload_n 2, 1) := by decide +kernel
theorem dX5_countPaying_8 : decode cX5_countPaying 8 = .ok (.arraylength, 1) := by decide +kernel
theorem dX5_countPaying_9 : decode cX5_countPaying 9 = .ok (.istore_n 3, 1) := by decide +kernel
theorem dX5_firstSign_0 : decode cX5_firstSign 0 = .ok (.aload_n 0, 1) := by decide +kernel
theorem dX5_firstSign_1 : decode cX5_firstSign 1 = .ok (.getfield 9, 3) := by decide +kernel
theorem dX5_firstSign_10 : decode cX5_firstSign 10 = .ok (.iload_n 3, 1) := by decide +kernel
theorem dX5_firstSign_11 : decode cX5_firstSign 11 = .ok (.iload_n 2, 1) := by decide +kernel
theorem dX5_firstSign_12 : decode cX5_firstSign 12 = .ok (.if_icmp .ge 34, 3) := by decide +kernel
theorem dX5_firstSign_15 : decode cX5_firstSign 15 = .ok (.aload_n 1, 1) := by decide +kernel
theorem dX5_firstSign_16 : decode cX5_firstSign 16 = .ok (.iload_n 3, 1) := by decide +kernel
theorem dX5_firstSign_17 : decode cX5_firstSign 17 = .ok (.laload, 1) := by decide +kernel
theorem dX5_firstSign_18 : decode cX5_firstSign 18 = .ok (.lstore 4, 2) := by decide +kernel
theorem dX5_firstSign_20 : decode cX5_firstSign 20 = .ok (.lload 4, 2) := by decide +kernel
theorem dX5_firstSign_22 : decode cX5_firstSign 22 = .ok (.lconst 0, 1) := by decide +kernel
theorem dX5_firstSign_23 : decode cX5_firstSign 23 = .ok (.lcmp, 1) := by decide +kernel
theorem dX5_firstSign_24 : decode cX5_firstSign 24 = .ok (.ifCond .eq 16, 3) := by decide +kernel
theorem dX5_firstSign_27 : decode cX5_firstSign 27 = .ok (.lload 4, 2) := by decide +kernel
theorem dX5_firstSign_29 : decode cX5_firstSign 29 = .ok (.lconst 0, 1) := by decide +kernel
theorem dX5_firstSign_30 : decode cX5_firstSign 30 = .ok (.lcmp, 1) := by decide +kernel
theorem dX5_firstSign_31 : decode cX5_firstSign 31 = .ok (.ifCond .ge 7, 3) := by decide +kernel
theorem dX5_firstSign_34 : decode cX5_firstSign 34 = .ok (.iconst (-1), 1) := by decide +kernel
theorem dX5_firstSign_35 : decode cX5_firstSign 35 = .ok (.goto 4, 3) := by decide +kernel
theorem dX5_firstSign_38 : decode cX5_firstSign 38 = .ok (.iconst 1, 1) := by decide +kernel
theorem dX5_firstSign_39 : decode cX5_firstSign 39 = .ok (.ireturn, 1) := by decide +kernel
theorem dX5_firstSign_4 : decode cX5_firstSign 4 = .ok (.astore_n 1, 1) := by decide +kernel
theorem dX5_firstSign_40 : decode cX5_firstSign 40 = .ok (.iinc 3 1, 3) := by decide +kernel
theorem dX5_firstSign_43 : decode cX5_firstSign 43 = .ok (.goto (-33), 3) := by decide +kernel
theorem dX5_firstSign_46 : decode cX5_firstSign 46 = .ok (.iconst 0, 1) := by decide +kernel
theorem dX5_firstSign_47 : decode cX5_firstSign 47 = .ok (.ireturn, 1) := by decide +kernel
theorem dX5_firstSign_5 : decode cX5_firstSign 5 = .ok (.aload_n 1, 1) := by decide +kernel
theorem dX5_firstSign_6 : decode cX5_firstSign 6 = .ok (.arraylength, 1) := by decide +kernel
theorem dX5_firstSign_7 : decode cX5_firstSign 7 = .ok (.istore_n 2, 1) := by decide +kernel
theorem dX5_firstSign_8 : decode cX5_firstSign 8 = .ok (.iconst 0, 1) := by decide +kernel
theorem dX5_firstSign_9 : decode cX5_firstSign 9 = .ok (.istore_n 3, 1) := by decide +kernel
theorem dX5_init_0 : decode cX5_init 0 = .ok (.aload_n 0, 1) := by decide +kernel
theorem dX5_init_1 : decode cX5_init 1 = .ok (.invokespecial 3, 3) := by decide +kernel
theorem dX5_init_12 : decode cX5_init 12 = .ok (.aload_n 0, 1) := by decide +kernel
theorem dX5_init_13 : decode cX5_init 13 = .ok (.new 15, 3) := by decide +kernel
theorem dX5_init_16 : decode cX5_init 16 = .ok (.dup, 1) := by decide +kernel
theorem dX5_init_17 : decode cX5_init 17 = .ok (.invokespecial 17, 3) := by decide +kernel
theorem dX5_init_20 : decode cX5_init 20 = .ok (.putfield 18, 3) := by decide +kernel
theorem dX5_init_23 : decode cX5_init 23 = .ok (.aload_n 0, 1) := by decide +kernel
theorem dX5_init_24 : decode cX5_init 24 = .ok (.new 15, 3) := by decide +kernel
theorem dX5_init_27 : decode cX5_init 27 = .ok (.dup, 1) := by decide +kernel
theorem dX5_init_28 : decode cX5_init 28 = .ok (.invokespecial 17, 3) := by decide +kernel
theorem dX5_init_31 : decode cX5_init 31 = .ok (.putfield 22, 3) := by decide +kernel
theorem dX5_init_34 : decode cX5_init 34 = .ok (.return_, 1) := by decide +kernel
theorem dX5_init_4 : decode cX5_init 4 = .ok (.aload_n 0, 1) := by decide +kernel
theorem dX5_init_5 : decode cX5_init 5 = .ok (.bipush 41, 2) := by decide +kernel
theorem dX5_init_7 : decode cX5_init 7 = .ok (.newarray .long, 2) := by decide +kernel
theorem dX5_init_9 : decode cX5_init 9 = .ok (.putfield 9, 3) := by decide +kernel
theorem dX5_isCarriedAlike_0 : decode cX5_isCarriedAlike 0 = .ok (.aload_n 0, 1) := by decide +kernel
theorem dX5_isCarriedAlike_1 : decode cX5_isCarriedAlike 1 = .ok (.iload_n 1, 1) := by decide +kernel
theorem dX5_isCarriedAlike_11 : decode cX5_isCarriedAlike 11 = .ok (.iload_n 1, 1) := by decide +kernel
theorem dX5_isCarriedAlike_12 : decode cX5_isCarriedAlike 12 = .ok (.aload_n 0, 1) := by decide +kernel
theorem dX5_isCarriedAlike_13 : decode cX5_isCarriedAlike 13 = .ok (.getfield 9, 3) := by decide +kernel
theorem dX5_isCarriedAlike_16 : decode cX5_isCarriedAlike 16 = .ok (.bipush 40, 2) := by decide +kernel
theorem dX5_isCarriedAlike_18 : decode cX5_isCarriedAlike 18 = .ok (.laload, 1) := by decide +kernel
theorem dX5_isCarriedAlike_19 : decode cX5_isCarriedAlike 19 = .ok (.invokevirtual 92, 3) := by decide +kernel
theorem dX5_isCarriedAlike_2 : decode cX5_isCarriedAlike 2 = .ok (.bipush 40, 2) := by decide +kernel
theorem dX5_isCarriedAlike_22 : decode cX5_isCarriedAlike 22 = .ok (.bipush 39, 2) := by decide +kernel
theorem dX5_isCarriedAlike_24 : decode cX5_isCarriedAlike 24 = .ok (.istore_n 2, 1) := by decide +kernel
theorem dX5_isCarriedAlike_25 : decode cX5_isCarriedAlike 25 = .ok (.iload_n 2, 1) := by decide +kernel
theorem dX5_isCarriedAlike_26 : decode cX5_isCarriedAlike 26 = .ok (.ifCond .lt 22, 3) := by decide +kernel
theorem dX5_isCarriedAlike_29 : decode cX5_isCarriedAlike 29 = .ok (.aload_n 0, 1) := by decide +kernel
theorem dX5_isCarriedAlike_30 : decode cX5_isCarriedAlike 30 = .ok (.getfield 22, 3) := by decide +kernel
theorem dX5_isCarriedAlike_33 : decode cX5_isCarriedAlike 33 = .ok (.aload_n 0, 1) := by decide +kernel
theorem dX5_isCarriedAlike_34 : decode cX5_isCarriedAlike 34 = .ok (.getfield 9, 3) := by decide +kernel
theorem dX5_isCarriedAlike_37 : decode cX5_isCarriedAlike 37 = .ok (.iload_n 2, 1) := by decide +kernel
theorem dX5_isCarriedAlike_38 : decode cX5_isCarriedAlike 38 = .ok (.laload, 1) := by decide +kernel
theorem dX5_isCarriedAlike_39 : decode cX5_isCarriedAlike 39 = .ok (.invokevirtual 96, 3) := by decide +kernel
theorem dX5_isCarriedAlike_4 : decode cX5_isCarriedAlike 4 = .ok (.invokevirtual 53, 3) := by decide +kernel
theorem dX5_isCarriedAlike_42 : decode cX5_isCarriedAlike 42 = .ok (.iinc 2 (-1), 3) := by decide +kernel
theorem dX5_isCarriedAlike_45 : decode cX5_isCarriedAlike 45 = .ok (.goto (-20), 3) := by decide +kernel
theorem dX5_isCarriedAlike_48 : decode cX5_isCarriedAlike 48 = .ok (.aload_n 0, 1) := by decide +kernel
theorem dX5_isCarriedAlike_49 : decode cX5_isCarriedAlike 49 = .ok (.getfield 22, 3) := by decide +kernel
theorem dX5_isCarriedAlike_52 : decode cX5_isCarriedAlike 52 = .ok (.getfield 71, 3) := by decide +kernel
theorem dX5_isCarriedAlike_55 : decode cX5_isCarriedAlike 55 = .ok (.lconst 1, 1) := by decide +kernel
theorem dX5_isCarriedAlike_56 : decode cX5_isCarriedAlike 56 = .ok (.aload_n 0, 1) := by decide +kernel
theorem dX5_isCarriedAlike_57 : decode cX5_isCarriedAlike 57 = .ok (.getfield 18, 3) := by decide +kernel
theorem dX5_isCarriedAlike_60 : decode cX5_isCarriedAlike 60 = .ok (.getfield 71, 3) := by decide +kernel
theorem dX5_isCarriedAlike_63 : decode cX5_isCarriedAlike 63 = .ok (.ldc2_w 100, 3) := by decide +kernel
theorem dX5_isCarriedAlike_66 : decode cX5_isCarriedAlike 66 = .ok (.iconst 0, 1) := by decide +kernel
theorem dX5_isCarriedAlike_67 : decode cX5_isCarriedAlike 67 = .ok (.invokevirtual 102, 3) := by decide +kernel
theorem dX5_isCarriedAlike_7 : decode cX5_isCarriedAlike 7 = .ok (.aload_n 0, 1) := by decide +kernel
theorem dX5_isCarriedAlike_70 : decode cX5_isCarriedAlike 70 = .ok (.aload_n 0, 1) := by decide +kernel
theorem dX5_isCarriedAlike_71 : decode cX5_isCarriedAlike 71 = .ok (.getfield 22, 3) := by decide +kernel
theorem dX5_isCarriedAlike_74 : decode cX5_isCarriedAlike 74 = .ok (.getfield 71, 3) := by decide +kernel
theorem dX5_isCarriedAlike_77 : decode cX5_isCarriedAlike 77 = .ok (.invokevirtual 81, 3) := by decide +kernel
theorem dX5_isCarriedAlike_8 : decode cX5_isCarriedAlike 8 = .ok (.getfield 22, 3) := by decide +kernel
theorem dX5_isCarriedAlike_80 : decode cX5_isCarriedAlike 80 = .ok (.ifCond .ne 7, 3) := by decide +kernel
theorem dX5_isCarriedAlike_83 : decode cX5_isCarriedAlike 83 = .ok (.iconst 1, 1) := by decide +kernel
theorem dX5_isCarriedAlike_84 : decode cX5_isCarriedAlike 84 = .ok (.goto 4, 3) := by decide +kernel
theorem dX5_isCarriedAlike_88 : decode cX5_isCarriedAlike 88 = .ok (.ireturn, 1) := by decide +kernel
theorem dX5_lastPaying_0 : decode cX5_lastPaying 0 = .ok (.bipush 40, 2) := by decide +kernel
theorem dX5_lastPaying_11 : decode cX5_lastPaying 11 = .ok (.iload_n 1, 1) := by decide +kernel
theorem dX5_lastPaying_12 : decode cX5_lastPaying 12 = .ok (.laload, 1) := by decide +kernel
theorem dX5_lastPaying_13 : decode cX5_lastPaying 13 = .ok (.lconst 0, 1) := by decide +kernel
theorem dX5_lastPaying_14 : decode cX5_lastPaying 14 = .ok (.lcmp, 1) := by decide +kernel
theorem dX5_lastPaying_15 : decode cX5_lastPaying 15 = .ok (.ifCond .ne 9, 3) := by decide +kernel
theorem dX5_lastPaying_18 : decode cX5_lastPaying 18 = .ok (.iinc 1 (-1), 3) := by decide +kernel
theorem dX5_lastPaying_2 : decode cX5_lastPaying 2 = .ok (.istore_n 1, 1) := by decide +kernel
theorem dX5_lastPaying_21 : decode cX5_lastPaying 21 = .ok (.goto (-18), 3) := by decide +kernel
theorem dX5_lastPaying_24 : decode cX5_lastPaying 24 = .ok (.iload_n 1, 1) := by decide +kernel
theorem dX5_lastPaying_25 : decode cX5_lastPaying 25 = .ok (.ireturn, 1) := by decide +kernel
theorem dX5_lastPaying_3 : decode cX5_lastPaying 3 = .ok (.iload_n 1, 1) := by decide +kernel
theorem dX5_lastPaying_4 : decode cX5_lastPaying 4 = .ok (.ifCond .le 20, 3) := by decide +kernel
theorem dX5_lastPaying_7 : decode cX5_lastPaying 7 = .ok (.aload_n 0, 1) := by decide +kernel
theorem dX5_lastPaying_8 : decode cX5_lastPaying 8 = .ok (.getfield 9, 3) := by decide +kernel
theorem dX5_signOfWorth_0 : decode cX5_signOfWorth 0 = .ok (.aload_n 0, 1) := by decide +kernel
theorem dX5_signOfWorth_1 : decode cX5_signOfWorth 1 = .ok (.iload_n 1, 1) := by decide +kernel
theorem dX5_signOfWorth_10 : decode cX5_signOfWorth 10 = .ok (.getfield 18, 3) := by decide +kernel
theorem dX5_signOfWorth_13 : decode cX5_signOfWorth 13 = .ok (.getfield 71, 3) := by decide +kernel
theorem dX5_signOfWorth_16 : decode cX5_signOfWorth 16 = .ok (.invokevirtual 81, 3) := by decide +kernel
theorem dX5_signOfWorth_19 : decode cX5_signOfWorth 19 = .ok (.ireturn, 1) := by decide +kernel
theorem dX5_signOfWorth_2 : decode cX5_signOfWorth 2 = .ok (.aload_n 0, 1) := by decide +kernel
theorem dX5_signOfWorth_3 : decode cX5_signOfWorth 3 = .ok (.invokevirtual 43, 3) := by decide +kernel
theorem dX5_signOfWorth_6 : decode cX5_signOfWorth 6 = .ok (.invokevirtual 53, 3) := by decide +kernel
theorem dX5_signOfWorth_9 : decode cX5_signOfWorth 9 = .ok (.aload_n 0, 1) := by decide +kernel
theorem dX5_sum_0 : decode cX5_sum 0 = .ok (.lconst 0, 1) := by decide +kernel
theorem dX5_sum_1 : decode cX5_sum 1 = .ok (.lstore_n 1, 1) := by decide +kernel
theorem dX5_sum_11 : decode cX5_sum 11 = .ok (.iconst 0, 1) := by decide +kernel
theorem dX5_sum_12 : decode cX5_sum 12 = .ok (.istore 5, 2) := by decide +kernel
theorem dX5_sum_14 : decode cX5_sum 14 = .ok (.iload 5, 2) := by decide +kernel
theorem dX5_sum_16 : decode cX5_sum 16 = .ok (.iload 4, 2) := by decide +kernel
theorem dX5_sum_18 : decode cX5_sum 18 = .ok (.if_icmp .ge 20, 3) := by decide +kernel
theorem dX5_sum_2 : decode cX5_sum 2 = .ok (.aload_n 0, 1) := by decide +kernel
theorem dX5_sum_21 : decode cX5_sum 21 = .ok (.aload_n 3, 1) := by decide +kernel
theorem dX5_sum_22 : decode cX5_sum 22 = .ok (.iload 5, 2) := by decide +kernel
theorem dX5_sum_24 : decode cX5_sum 24 = .ok (.laload, 1) := by decide +kernel
theorem dX5_sum_25 : decode cX5_sum 25 = .ok (.lstore 6, 2) := by decide +kernel
theorem dX5_sum_27 : decode cX5_sum 27 = .ok (.lload_n 1, 1) := by decide +kernel
theorem dX5_sum_28 : decode cX5_sum 28 = .ok (.lload 6, 2) := by decide +kernel
theorem dX5_sum_3 : decode cX5_sum 3 = .ok (.getfield 9, 3) := by decide +kernel
theorem dX5_sum_30 : decode cX5_sum 30 = .ok (.ladd, 1) := by decide +kernel
theorem dX5_sum_31 : decode cX5_sum 31 = .ok (.lstore_n 1, 1) := by decide +kernel
theorem dX5_sum_32 : decode cX5_sum 32 = .ok (.iinc 5 1, 3) := by decide +kernel
theorem dX5_sum_35 : decode cX5_sum 35 = .ok (.goto (-21), 3) := by decide +kernel
theorem dX5_sum_38 : decode cX5_sum 38 = .ok (.lload_n 1, 1) := by decide +kernel
theorem dX5_sum_39 : decode cX5_sum 39 = .ok (.lreturn, 1) := by decide +kernel
theorem dX5_sum_6 : decode cX5_sum 6 = .ok (.astore_n 3, 1) := by decide +kernel
theorem dX5_sum_7 : decode cX5_sum 7 = .ok (.aload_n 3, 1) := by decide +kernel
theorem dX5_sum_8 : decode cX5_sum 8 = .ok (.arraylength, 1) := by decide +kernel
theorem dX5_sum_9 : decode cX5_sum 9 = .ok (.istore 4, 2) := by decide +kernel
theorem dX5_worthIn_0 : decode cX5_worthIn 0 = .ok (.iload_n 1, 1) := by decide +kernel
theorem dX5_worthIn_1 : decode cX5_worthIn 1 = .ok (.aload_n 0, 1) := by decide +kernel
theorem dX5_worthIn_10 : decode cX5_worthIn 10 = .ok (.aload_n 0, 1) := by decide +kernel
theorem dX5_worthIn_11 : decode cX5_worthIn 11 = .ok (.iload_n 2, 1) := by decide +kernel
theorem dX5_worthIn_12 : decode cX5_worthIn 12 = .ok (.iload 4, 2) := by decide +kernel
theorem dX5_worthIn_14 : decode cX5_worthIn 14 = .ok (.invokevirtual 53, 3) := by decide +kernel
theorem dX5_worthIn_17 : decode cX5_worthIn 17 = .ok (.aload_n 0, 1) := by decide +kernel
theorem dX5_worthIn_18 : decode cX5_worthIn 18 = .ok (.getfield 18, 3) := by decide +kernel
theorem dX5_worthIn_2 : decode cX5_worthIn 2 = .ok (.invokevirtual 43, 3) := by decide +kernel
theorem dX5_worthIn_21 : decode cX5_worthIn 21 = .ok (.lconst 1, 1) := by decide +kernel
theorem dX5_worthIn_22 : decode cX5_worthIn 22 = .ok (.iload 4, 2) := by decide +kernel
theorem dX5_worthIn_24 : decode cX5_worthIn 24 = .ok (.iload_n 1, 1) := by decide +kernel
theorem dX5_worthIn_25 : decode cX5_worthIn 25 = .ok (.isub, 1) := by decide +kernel
theorem dX5_worthIn_26 : decode cX5_worthIn 26 = .ok (.invokevirtual 57, 3) := by decide +kernel
theorem dX5_worthIn_29 : decode cX5_worthIn 29 = .ok (.astore 5, 2) := by decide +kernel
theorem dX5_worthIn_31 : decode cX5_worthIn 31 = .ok (.aload 5, 2) := by decide +kernel
theorem dX5_worthIn_33 : decode cX5_worthIn 33 = .ok (.aload_n 0, 1) := by decide +kernel
theorem dX5_worthIn_34 : decode cX5_worthIn 34 = .ok (.getfield 18, 3) := by decide +kernel
theorem dX5_worthIn_37 : decode cX5_worthIn 37 = .ok (.getfield 61, 3) := by decide +kernel
theorem dX5_worthIn_40 : decode cX5_worthIn 40 = .ok (.iload_n 1, 1) := by decide +kernel
theorem dX5_worthIn_41 : decode cX5_worthIn 41 = .ok (.invokevirtual 65, 3) := by decide +kernel
theorem dX5_worthIn_44 : decode cX5_worthIn 44 = .ok (.aload_n 3, 1) := by decide +kernel
theorem dX5_worthIn_45 : decode cX5_worthIn 45 = .ok (.aload_n 0, 1) := by decide +kernel
theorem dX5_worthIn_46 : decode cX5_worthIn 46 = .ok (.getfield 18, 3) := by decide +kernel
theorem dX5_worthIn_49 : decode cX5_worthIn 49 = .ok (.getfield 71, 3) := by decide +kernel
theorem dX5_worthIn_5 : decode cX5_worthIn 5 = .ok (.invokestatic 47, 3) := by decide +kernel
theorem dX5_worthIn_52 : decode cX5_worthIn 52 = .ok (.aload 5, 2) := by decide +kernel
theorem dX5_worthIn_54 : decode cX5_worthIn 54 = .ok (.invokevirtual 75, 3) := by decide +kernel
theorem dX5_worthIn_57 : decode cX5_worthIn 57 = .ok (.lreturn, 1) := by decide +kernel
theorem dX5_worthIn_8 : decode cX5_worthIn 8 = .ok (.istore 4, 2) := by decide +kernel
theorem dX5_yieldPoints_0 : decode cX5_yieldPoints 0 = .ok (.aload_n 0, 1) := by decide +kernel
theorem dX5_yieldPoints_1 : decode cX5_yieldPoints 1 = .ok (.invokevirtual 84, 3) := by decide +kernel
theorem dX5_yieldPoints_12 : decode cX5_yieldPoints 12 = .ok (.iload_n 1, 1) := by decide +kernel
theorem dX5_yieldPoints_13 : decode cX5_yieldPoints 13 = .ok (.ineg, 1) := by decide +kernel
theorem dX5_yieldPoints_14 : decode cX5_yieldPoints 14 = .ok (.if_icmp .ne 5, 3) := by decide +kernel
theorem dX5_yieldPoints_17 : decode cX5_yieldPoints 17 = .ok (.iconst (-1), 1) := by decide +kernel
theorem dX5_yieldPoints_18 : decode cX5_yieldPoints 18 = .ok (.ireturn, 1) := by decide +kernel
theorem dX5_yieldPoints_19 : decode cX5_yieldPoints 19 = .ok (.iconst 0, 1) := by decide +kernel
theorem dX5_yieldPoints_20 : decode cX5_yieldPoints 20 = .ok (.istore_n 2, 1) := by decide +kernel
theorem dX5_yieldPoints_21 : decode cX5_yieldPoints 21 = .ok (.sipush 20000, 3) := by decide +kernel
theorem dX5_yieldPoints_24 : decode cX5_yieldPoints 24 = .ok (.istore_n 3, 1) := by decide +kernel
theorem dX5_yieldPoints_25 : decode cX5_yieldPoints 25 = .ok (.iconst 0, 1) := by decide +kernel
theorem dX5_yieldPoints_26 : decode cX5_yieldPoints 26 = .ok (.istore 4, 2) := by decide +kernel
theorem dX5_yieldPoints_28 : decode cX5_yieldPoints 28 = .ok (.iload 4, 2) := by decide +kernel
theorem dX5_yieldPoints_30 : decode cX5_yieldPoints 30 = .ok (.ldc 91, 2) := by decide +kernel
theorem dX5_yieldPoints_32 : decode cX5_yieldPoints 32 = .ok (.if_icmp .ge 43, 3) := by decide +kernel
theorem dX5_yieldPoints_35 : decode cX5_yieldPoints 35 = .ok (.iload_n 2, 1) := by decide +kernel
theorem dX5_yieldPoints_36 : decode cX5_yieldPoints 36 = .ok (.iload_n 3, 1) := by decide +kernel
theorem dX5_yieldPoints_37 : decode cX5_yieldPoints 37 = .ok (.if_icmp .ge 38, 3) := by decide +kernel
theorem dX5_yieldPoints_4 : decode cX5_yieldPoints 4 = .ok (.istore_n 1, 1) := by decide +kernel
theorem dX5_yieldPoints_40 : decode cX5_yieldPoints 40 = .ok (.iload_n 2, 1) := by decide +kernel
theorem dX5_yieldPoints_41 : decode cX5_yieldPoints 41 = .ok (.iload_n 3, 1) := by decide +kernel
theorem dX5_yieldPoints_42 : decode cX5_yieldPoints 42 = .ok (.iadd, 1) := by decide +kernel
theorem dX5_yieldPoints_43 : decode cX5_yieldPoints 43 = .ok (.iconst 2, 1) := by decide +kernel
theorem dX5_yieldPoints_44 : decode cX5_yieldPoints 44 = .ok (.idiv, 1) := by decide +kernel
theorem dX5_yieldPoints_45 : decode cX5_yieldPoints 45 = .ok (.istore 5, 2) := by decide +kernel
theorem dX5_yieldPoints_47 : decode cX5_yieldPoints 47 = .ok (.aload_n 0, 1) := by decide +kernel
theorem dX5_yieldPoints_48 : decode cX5_yieldPoints 48 = .ok (.iload 5, 2) := by decide +kernel
theorem dX5_yieldPoints_5 : decode cX5_yieldPoints 5 = .ok (.aload_n 0, 1) := by decide +kernel
theorem dX5_yieldPoints_50 : decode cX5_yieldPoints 50 = .ok (.invokevirtual 87, 3) := by decide +kernel
theorem dX5_yieldPoints_53 : decode cX5_yieldPoints 53 = .ok (.iload_n 1, 1) := by decide +kernel
theorem dX5_yieldPoints_54 : decode cX5_yieldPoints 54 = .ok (.ineg, 1) := by decide +kernel
theorem dX5_yieldPoints_55 : decode cX5_yieldPoints 55 = .ok (.if_icmp .ne 11, 3) := by decide +kernel
theorem dX5_yieldPoints_58 : decode cX5_yieldPoints 58 = .ok (.iload 5, 2) := by decide +kernel
theorem dX5_yieldPoints_6 : decode cX5_yieldPoints 6 = .ok (.sipush 20000, 3) := by decide +kernel
theorem dX5_yieldPoints_60 : decode cX5_yieldPoints 60 = .ok (.iconst 1, 1) := by decide +kernel
theorem dX5_yieldPoints_61 : decode cX5_yieldPoints 61 = .ok (.iadd, 1) := by decide +kernel
theorem dX5_yieldPoints_62 : decode cX5_yieldPoints 62 = .ok (.istore_n 2, 1) := by decide +kernel
theorem dX5_yieldPoints_63 : decode cX5_yieldPoints 63 = .ok (.goto 6, 3) := by decide +kernel
theorem dX5_yieldPoints_66 : decode cX5_yieldPoints 66 = .ok (.iload 5, 2) := by decide +kernel
theorem dX5_yieldPoints_68 : decode cX5_yieldPoints 68 = .ok (.istore_n 3, 1) := by decide +kernel
theorem dX5_yieldPoints_69 : decode cX5_yieldPoints 69 = .ok (.iinc 4 1, 3) := by decide +kernel
theorem dX5_yieldPoints_72 : decode cX5_yieldPoints 72 = .ok (.goto (-44), 3) := by decide +kernel
theorem dX5_yieldPoints_75 : decode cX5_yieldPoints 75 = .ok (.iload_n 2, 1) := by decide +kernel
theorem dX5_yieldPoints_76 : decode cX5_yieldPoints 76 = .ok (.ireturn, 1) := by decide +kernel
theorem dX5_yieldPoints_9 : decode cX5_yieldPoints 9 = .ok (.invokevirtual 87, 3) := by decide +kernel
set_option maxRecDepth 20000 in
theorem ggX5_add_X9_demandState : GoodIn wsX5_add wsX9_demandState := goodIn_ca (goodIn_r _ [8, 9, 10] (by decide +kernel) (by decide +kernel)) (goodIn_sub (fun _ h => List.mem_cons_of_mem _ (List.mem_append_right _ h)) (by decide +kernel))
set_option maxRecDepth 20000 in
theorem gX5_add_X9_demandState_n33 : GoodIn wsX5_add (wsX9_demandState) := ggX5_add_X9_demandState
set_option maxRecDepth 20000 in
theorem ggX5_add_X9_isWithin : GoodIn wsX5_add wsX9_isWithin := goodIn_r _ [6] (by decide +kernel) (by decide +kernel)
set_option maxRecDepth 20000 in
theorem gX5_add_X9_isWithin_n29 : GoodIn wsX5_add (wsX9_isWithin) := ggX5_add_X9_isWithin
set_option maxRecDepth 20000 in
theorem ggX5_carry_X1_begin : GoodIn wsX5_carry wsX1_begin := goodIn_r _ [7, 8, 9, 10, 6, 11, 12, 13, 14, 15, 16, 17, 18, 19, 20, 21, 22, 23, 24, 25, 26, 27, 28, 29, 30, 31, 32, 33, 34, 35, 36, 37, 38, 79, 80, 81, 82, 83, 84, 85, 86, 87] (by decide +kernel) (by decide +kernel)
set_option maxRecDepth 20000 in
theorem gX5_carry_X1_begin : GoodIn wsX5_carry (wsV RX5 106 RX1 yX1_begin wsX1_begin) := goodIn_app (goodIn_of _ (by decide +kernel)) ggX5_carry_X1_begin
set_option maxRecDepth 20000 in
theorem ggX5_carry_X1_next : GoodIn wsX5_carry wsX1_next := goodIn_r _ [42, 25, 22, 24, 21, 23, 43, 44, 45, 29, 46, 35, 36, 37, 38, 47, 48, 49, 50, 51, 52, 53, 54, 55, 56, 57, 58, 59, 60, 61, 62, 63, 15, 64, 65, 66, 67, 68, 31, 32, 33, 34, 69, 70, 71, 72, 73, 74, 75, 79, 80, 81, 82, 83, 84, 85, 86, 87] (by decide +kernel) (by decide +kernel)
set_option maxRecDepth 20000 in
theorem gX5_carry_X1_next : GoodIn wsX5_carry (wsV RX5 96 RX1 yX1_next wsX1_next) := goodIn_app (goodIn_of _ (by decide +kernel)) ggX5_carry_X1_next
set_option maxRecDepth 20000 in
theorem ggX5_clear_J7_fill_d0a16 : GoodIn wsX5_clear wsJ7_fill_d0a16 := goodIn_r _ [5] (by decide +kernel) (by decide +kernel)
set_option maxRecDepth 20000 in
theorem gX5_clear_J7_fill_d0a16 : GoodIn wsX5_clear (va_wsS RX5 37 yJ7_fill_d0a16 wsJ7_fill_d0a16) := goodIn_app (goodIn_of _ (by decide +kernel)) ggX5_clear_J7_fill_d0a16
set_option maxRecDepth 20000 in
theorem ggX5_init_X1_init : GoodIn wsX5_init wsX1_init := goodIn_r _ [12, 13, 2, 3, 14, 15, 16, 17, 18, 19, 20, 21, 22, 23, 24, 25, 4, 26, 27, 28, 38, 39, 40, 32, 33, 34, 35, 36, 37] (by decide +kernel) (by decide +kernel)
set_option maxRecDepth 20000 in
theorem gX5_init_X1_init_n17 : GoodIn wsX5_init (wsX1_init) := ggX5_init_X1_init
set_option maxRecDepth 20000 in
theorem ggX5_isCarriedAlike_X1_beginBackwards : GoodIn wsX5_isCarriedAlike wsX1_beginBackwards := goodIn_r _ [87, 16, 17, 18, 14, 19, 20, 21, 22, 23, 24, 25, 26, 27, 28, 29, 30, 31, 32, 33, 34, 35, 36, 37, 38, 39, 40, 41, 42, 43, 44, 45, 46, 96, 97, 98, 99, 100, 101, 102, 103, 104] (by decide +kernel) (by decide +kernel)
set_option maxRecDepth 20000 in
theorem gX5_isCarriedAlike_X1_beginBackwards : GoodIn wsX5_isCarriedAlike (wsV RX5 92 RX1 yX1_beginBackwards wsX1_beginBackwards) := goodIn_app (goodIn_of _ (by decide +kernel)) ggX5_isCarriedAlike_X1_beginBackwards
set_option maxRecDepth 20000 in
theorem ggX5_isCarriedAlike_X1_next : GoodIn wsX5_isCarriedAlike wsX1_next := goodIn_r _ [50, 33, 30, 32, 29, 31, 51, 52, 53, 37, 54, 43, 44, 45, 46, 55, 56, 57, 58, 59, 60, 61, 62, 63, 64, 65, 66, 67, 68, 69, 70, 71, 23, 72, 73, 74, 75, 76, 39, 40, 41, 42, 77, 78, 79, 80, 81, 82, 83, 96, 97, 98, 99, 100, 101, 102, 103, 104] (by decide +kernel) (by decide +kernel)
set_option maxRecDepth 20000 in
theorem gX5_isCarriedAlike_X1_next : GoodIn wsX5_isCarriedAlike (wsV RX5 96 RX1 yX1_next wsX1_next) := goodIn_app (goodIn_of _ (by decide +kernel)) ggX5_isCarriedAlike_X1_next
set_option maxRecDepth 20000 in
theorem ggX5_isCarriedAlike_X5_carry : GoodIn wsX5_isCarriedAlike wsX5_carry := goodIn_r _ [10, 4, 2, 11, 12, 13, 14, 15, 16, 17, 18, 19, 20, 21, 22, 23, 24, 25, 26, 27, 28, 29, 30, 31, 32, 33, 34, 35, 36, 37, 38, 39, 40, 41, 42, 43, 44, 45, 46, 47, 48, 49, 50, 51, 52, 53, 54, 55, 56, 57, 58, 59, 60, 61, 62, 63, 64, 65, 66, 67, 68, 69, 70, 71, 72, 73, 74, 75, 76, 77, 78, 79, 80, 81, 82, 83, 93, 94, 95, 96, 97, 98, 99, 100, 101, 102, 103, 104] (by decide +kernel) (by decide +kernel)
set_option maxRecDepth 20000 in
theorem gX5_isCarriedAlike_X5_carry : GoodIn wsX5_isCarriedAlike (wsV RX5 53 RX5 yX5_carry wsX5_carry) := goodIn_app (goodIn_of _ (by decide +kernel)) ggX5_isCarriedAlike_X5_carry
set_option maxRecDepth 20000 in
theorem ggX5_isCarriedAlike_X8_combine : GoodIn wsX5_isCarriedAlike wsX8_combine := goodIn_r _ [80, 43, 81, 82, 23, 83, 44, 46, 45, 55, 56, 57, 37, 58, 59, 60, 61, 62, 63, 64, 65, 66, 67, 68, 69, 70, 71, 72, 73, 74, 75, 76, 39, 40, 41, 42, 102, 103, 104] (by decide +kernel) (by decide +kernel)
set_option maxRecDepth 20000 in
theorem gX5_isCarriedAlike_X8_combine : GoodIn wsX5_isCarriedAlike (wsV RX5 102 RX8 yX8_combine wsX8_combine) := goodIn_app (goodIn_of _ (by decide +kernel)) ggX5_isCarriedAlike_X8_combine
set_option maxRecDepth 20000 in
theorem ggX5_isCarriedAlike_X8_sign : GoodIn wsX5_isCarriedAlike wsX8_sign := goodIn_r _ [92, 46, 43, 102, 103, 104] (by decide +kernel) (by decide +kernel)
set_option maxRecDepth 20000 in
theorem gX5_isCarriedAlike_X8_sign : GoodIn wsX5_isCarriedAlike (wsV RX5 81 RX8 yX8_sign wsX8_sign) := goodIn_app (goodIn_of _ (by decide +kernel)) ggX5_isCarriedAlike_X8_sign
set_option maxRecDepth 20000 in
theorem ggX5_signOfWorth_X5_carry : GoodIn wsX5_signOfWorth wsX5_carry := goodIn_r _ [12, 1, 8, 13, 14, 15, 16, 17, 18, 19, 20, 21, 22, 23, 24, 25, 26, 27, 28, 29, 30, 31, 32, 33, 34, 35, 36, 37, 38, 39, 40, 41, 42, 43, 44, 45, 46, 47, 48, 49, 50, 51, 52, 53, 54, 55, 56, 57, 58, 59, 60, 61, 62, 63, 64, 65, 66, 67, 68, 69, 70, 71, 72, 73, 74, 75, 76, 77, 78, 79, 80, 81, 82, 83, 84, 85, 90, 91, 92, 93, 94, 95, 96, 97, 98, 99, 100, 101] (by decide +kernel) (by decide +kernel)
set_option maxRecDepth 20000 in
theorem gX5_signOfWorth_X5_carry : GoodIn wsX5_signOfWorth (wsV RX5 53 RX5 yX5_carry wsX5_carry) := goodIn_app (goodIn_of _ (by decide +kernel)) ggX5_signOfWorth_X5_carry
set_option maxRecDepth 20000 in
theorem ggX5_signOfWorth_X5_lastPaying : GoodIn wsX5_signOfWorth wsX5_lastPaying := goodIn_r _ [7, 8, 90, 91, 92] (by decide +kernel) (by decide +kernel)
set_option maxRecDepth 20000 in
theorem gX5_signOfWorth_X5_lastPaying : GoodIn wsX5_signOfWorth (wsV RX5 43 RX5 yX5_lastPaying wsX5_lastPaying) := goodIn_app (goodIn_of _ (by decide +kernel)) ggX5_signOfWorth_X5_lastPaying
set_option maxRecDepth 20000 in
theorem ggX5_signOfWorth_X8_sign : GoodIn wsX5_signOfWorth wsX8_sign := goodIn_r _ [89, 48, 45, 99, 100, 101] (by decide +kernel) (by decide +kernel)
set_option maxRecDepth 20000 in
theorem gX5_signOfWorth_X8_sign : GoodIn wsX5_signOfWorth (wsV RX5 81 RX8 yX8_sign wsX8_sign) := goodIn_app (goodIn_of _ (by decide +kernel)) ggX5_signOfWorth_X8_sign
set_option maxRecDepth 20000 in
theorem ggX5_worthIn_X1_upPower : GoodIn wsX5_worthIn wsX1_upPower := goodIn_r _ [91, 92, 35, 40, 41, 42, 43, 44, 45, 46, 47, 48, 49, 50, 51, 52, 93, 94, 95, 96, 97, 58, 59, 60, 61, 62, 63, 64, 65, 66, 67, 68, 69, 70, 71, 72, 73, 74, 75, 76, 77, 3, 78, 79, 80, 81, 82, 151, 152, 153, 154, 155, 156, 157, 158, 159] (by decide +kernel) (by decide +kernel)
set_option maxRecDepth 20000 in
theorem gX5_worthIn_X1_upPower : GoodIn wsX5_worthIn (wsV RX5 57 RX1 yX1_upPower wsX1_upPower) := goodIn_app (goodIn_of _ (by decide +kernel)) ggX5_worthIn_X1_upPower
set_option maxRecDepth 20000 in
theorem ggX5_worthIn_X4_ratio_ : GoodIn wsX5_worthIn wsX4_ratio_ := goodIn_ca (goodIn_r _ [103, 104, 105, 106, 107, 108, 43, 109, 52, 49, 110, 58, 59, 60, 50, 51, 61, 62, 63, 64, 65, 66, 67, 68, 69, 70, 71, 72, 73, 74, 75, 76, 77, 3, 78, 79, 80, 81, 82, 45, 46, 47, 48, 111, 112, 113, 114, 115, 116, 29, 30, 117, 118, 119, 120, 121, 122, 123, 124, 97, 125, 126, 127, 128, 129, 84, 85, 86, 87, 2, 4, 130, 131, 132, 102, 133, 134, 135, 136, 137, 138, 139, 140, 141, 142, 143, 144, 145, 146, 147, 157, 158, 159, 160] (by decide +kernel) (by decide +kernel)) (goodIn_sub (fun _ h => List.mem_cons_of_mem _ (List.mem_append_right _ h)) (by decide +kernel))
set_option maxRecDepth 20000 in
theorem gX5_worthIn_X4_ratio_ : GoodIn wsX5_worthIn (wsV RX5 75 RX4 yX4_ratio_ wsX4_ratio_) := goodIn_app (goodIn_of _ (by decide +kernel)) ggX5_worthIn_X4_ratio_
set_option maxRecDepth 20000 in
theorem ggX5_worthIn_X5_carry : GoodIn wsX5_worthIn wsX5_carry := goodIn_r _ [17, 5, 13, 18, 19, 20, 21, 22, 23, 24, 25, 26, 27, 28, 29, 3, 30, 31, 32, 33, 34, 35, 36, 37, 38, 39, 40, 41, 42, 43, 44, 45, 46, 47, 48, 49, 50, 51, 52, 53, 54, 55, 56, 57, 58, 59, 60, 61, 62, 63, 64, 65, 66, 67, 68, 69, 70, 71, 72, 73, 74, 75, 76, 77, 78, 79, 80, 81, 82, 83, 84, 85, 86, 87, 2, 4, 148, 149, 150, 151, 152, 153, 154, 155, 156, 157, 158, 159] (by decide +kernel) (by decide +kernel)
set_option maxRecDepth 20000 in
theorem gX5_worthIn_X5_carry : GoodIn wsX5_worthIn (wsV RX5 53 RX5 yX5_carry wsX5_carry) := goodIn_app (goodIn_of _ (by decide +kernel)) ggX5_worthIn_X5_carry
set_option maxRecDepth 20000 in
theorem ggX5_worthIn_X5_lastPaying : GoodIn wsX5_worthIn wsX5_lastPaying := goodIn_r _ [12, 13, 148, 149, 150] (by decide +kernel) (by decide +kernel)
set_option maxRecDepth 20000 in
theorem gX5_worthIn_X5_lastPaying : GoodIn wsX5_worthIn (wsV RX5 43 RX5 yX5_lastPaying wsX5_lastPaying) := goodIn_app (goodIn_of _ (by decide +kernel)) ggX5_worthIn_X5_lastPaying
set_option maxRecDepth 20000 in
theorem ggX5_worthIn_X8_timesPower : GoodIn wsX5_worthIn wsX8_timesPower := goodIn_r _ [96, 97, 58, 59, 43, 60, 49, 50, 51, 52, 61, 62, 63, 64, 65, 66, 67, 68, 69, 70, 71, 72, 73, 74, 75, 76, 77, 3, 78, 79, 80, 81, 82, 45, 46, 47, 48, 157, 158, 159] (by decide +kernel) (by decide +kernel)
set_option maxRecDepth 20000 in
theorem gX5_worthIn_X8_timesPower : GoodIn wsX5_worthIn (wsV RX5 65 RX8 yX8_timesPower wsX8_timesPower) := goodIn_app (goodIn_of _ (by decide +kernel)) ggX5_worthIn_X8_timesPower
set_option maxRecDepth 20000 in
theorem ggX5_yieldPoints_X5_firstSign : GoodIn wsX5_yieldPoints wsX5_firstSign := goodIn_r _ [6, 7, 99, 100, 101] (by decide +kernel) (by decide +kernel)
set_option maxRecDepth 20000 in
theorem gX5_yieldPoints_X5_firstSign : GoodIn wsX5_yieldPoints (wsV RX5 84 RX5 yX5_firstSign wsX5_firstSign) := goodIn_app (goodIn_of _ (by decide +kernel)) ggX5_yieldPoints_X5_firstSign
set_option maxRecDepth 20000 in
theorem ggX5_yieldPoints_X5_signOfWorth : GoodIn wsX5_yieldPoints wsX5_signOfWorth := goodIn_r _ [11, 12, 13, 14, 15, 16, 5, 17, 7, 18, 19, 20, 21, 22, 23, 24, 25, 26, 27, 28, 29, 30, 31, 32, 33, 34, 35, 36, 37, 38, 39, 40, 41, 42, 43, 44, 45, 46, 47, 48, 49, 50, 51, 52, 53, 54, 55, 56, 57, 58, 59, 60, 61, 62, 63, 64, 65, 66, 67, 68, 69, 70, 71, 72, 73, 74, 75, 76, 77, 78, 79, 80, 81, 82, 83, 84, 85, 86, 87, 88, 89, 90, 91, 92, 93, 94, 95, 96, 97, 98, 99, 100, 101, 102, 103, 104, 105, 106, 107, 108, 109, 110] (by decide +kernel) (by decide +kernel)
set_option maxRecDepth 20000 in
theorem gX5_yieldPoints_X5_signOfWorth : GoodIn wsX5_yieldPoints (wsV RX5 87 RX5 yX5_signOfWorth wsX5_signOfWorth) := goodIn_app (goodIn_of _ (by decide +kernel)) ggX5_yieldPoints_X5_signOfWorth
