-- printed rows that the walks use
theorem dX12_deathWorth_0 : decode cX12_deathWorth 0 = .ok (.aload_n 0, 1) := by decide +kernel
theorem dX12_deathWorth_1 : decode cX12_deathWorth 1 = .ok (.iload_n 1, 1) := by decide +kernel
theorem dX12_deathWorth_2 : decode cX12_deathWorth 2 = .ok (.lload_n 2, 1) := by decide +kernel
theorem dX12_deathWorth_3 : decode cX12_deathWorth 3 = .ok (.iload 4, 2) := by decide +kernel
theorem dX12_deathWorth_5 : decode cX12_deathWorth 5 = .ok (.iconst 1, 1) := by decide +kernel
theorem dX12_deathWorth_6 : decode cX12_deathWorth 6 = .ok (.invokevirtual 269, 3) := by decide +kernel
theorem dX12_deathWorth_9 : decode cX12_deathWorth 9 = .ok (.lreturn, 1) := by decide +kernel
theorem dX12_isBond_0 : decode cX12_isBond 0 = .ok (.lload_n 0, 1) := by decide +kernel
theorem dX12_isBond_1 : decode cX12_isBond 1 = .ok (.lconst 0, 1) := by decide +kernel
theorem dX12_isBond_11 : decode cX12_isBond 11 = .ok (.lload_n 2, 1) := by decide +kernel
theorem dX12_isBond_12 : decode cX12_isBond 12 = .ok (.lconst 0, 1) := by decide +kernel
theorem dX12_isBond_13 : decode cX12_isBond 13 = .ok (.ldc2_w 121, 3) := by decide +kernel
theorem dX12_isBond_16 : decode cX12_isBond 16 = .ok (.invokestatic 91, 3) := by decide +kernel
theorem dX12_isBond_19 : decode cX12_isBond 19 = .ok (.ifCond .eq 20, 3) := by decide +kernel
theorem dX12_isBond_2 : decode cX12_isBond 2 = .ok (.ldc2_w 121, 3) := by decide +kernel
theorem dX12_isBond_22 : decode cX12_isBond 22 = .ok (.iload 4, 2) := by decide +kernel
theorem dX12_isBond_24 : decode cX12_isBond 24 = .ok (.i2l, 1) := by decide +kernel
theorem dX12_isBond_25 : decode cX12_isBond 25 = .ok (.lconst 1, 1) := by decide +kernel
theorem dX12_isBond_26 : decode cX12_isBond 26 = .ok (.ldc2_w 125, 3) := by decide +kernel
theorem dX12_isBond_29 : decode cX12_isBond 29 = .ok (.invokestatic 91, 3) := by decide +kernel
theorem dX12_isBond_32 : decode cX12_isBond 32 = .ok (.ifCond .eq 7, 3) := by decide +kernel
theorem dX12_isBond_35 : decode cX12_isBond 35 = .ok (.iconst 1, 1) := by decide +kernel
theorem dX12_isBond_36 : decode cX12_isBond 36 = .ok (.goto 4, 3) := by decide +kernel
theorem dX12_isBond_39 : decode cX12_isBond 39 = .ok (.iconst 0, 1) := by decide +kernel
theorem dX12_isBond_40 : decode cX12_isBond 40 = .ok (.ireturn, 1) := by decide +kernel
theorem dX12_isBond_5 : decode cX12_isBond 5 = .ok (.invokestatic 91, 3) := by decide +kernel
theorem dX12_isBond_8 : decode cX12_isBond 8 = .ok (.ifCond .eq 31, 3) := by decide +kernel
theorem dX12_lifeOrDeath_0 : decode cX12_lifeOrDeath 0 = .ok (.lload_n 2, 1) := by decide +kernel
theorem dX12_lifeOrDeath_1 : decode cX12_lifeOrDeath 1 = .ok (.lconst 0, 1) := by decide +kernel
theorem dX12_lifeOrDeath_105 : decode cX12_lifeOrDeath 105 = .ok (.aload_n 0, 1) := by decide +kernel
theorem dX12_lifeOrDeath_106 : decode cX12_lifeOrDeath 106 = .ok (.iload 6, 2) := by decide +kernel
theorem dX12_lifeOrDeath_108 : decode cX12_lifeOrDeath 108 = .ok (.iload 7, 2) := by decide +kernel
theorem dX12_lifeOrDeath_11 : decode cX12_lifeOrDeath 11 = .ok (.iload 4, 2) := by decide +kernel
theorem dX12_lifeOrDeath_110 : decode cX12_lifeOrDeath 110 = .ok (.aload 8, 2) := by decide +kernel
theorem dX12_lifeOrDeath_112 : decode cX12_lifeOrDeath 112 = .ok (.ifnull 7, 3) := by decide +kernel
theorem dX12_lifeOrDeath_119 : decode cX12_lifeOrDeath 119 = .ok (.iconst 0, 1) := by decide +kernel
theorem dX12_lifeOrDeath_120 : decode cX12_lifeOrDeath 120 = .ok (.invokevirtual 95, 3) := by decide +kernel
theorem dX12_lifeOrDeath_123 : decode cX12_lifeOrDeath 123 = .ok (.ifCond .eq 12, 3) := by decide +kernel
theorem dX12_lifeOrDeath_13 : decode cX12_lifeOrDeath 13 = .ok (.invokestatic 147, 3) := by decide +kernel
theorem dX12_lifeOrDeath_135 : decode cX12_lifeOrDeath 135 = .ok (.lconst 0, 1) := by decide +kernel
theorem dX12_lifeOrDeath_136 : decode cX12_lifeOrDeath 136 = .ok (.lreturn, 1) := by decide +kernel
theorem dX12_lifeOrDeath_16 : decode cX12_lifeOrDeath 16 = .ok (.ifCond .eq 7, 3) := by decide +kernel
theorem dX12_lifeOrDeath_19 : decode cX12_lifeOrDeath 19 = .ok (.iconst 1, 1) := by decide +kernel
theorem dX12_lifeOrDeath_2 : decode cX12_lifeOrDeath 2 = .ok (.ldc2_w 121, 3) := by decide +kernel
theorem dX12_lifeOrDeath_20 : decode cX12_lifeOrDeath 20 = .ok (.goto 4, 3) := by decide +kernel
theorem dX12_lifeOrDeath_23 : decode cX12_lifeOrDeath 23 = .ok (.iconst 0, 1) := by decide +kernel
theorem dX12_lifeOrDeath_24 : decode cX12_lifeOrDeath 24 = .ok (.istore 6, 2) := by decide +kernel
theorem dX12_lifeOrDeath_26 : decode cX12_lifeOrDeath 26 = .ok (.iload_n 1, 1) := by decide +kernel
theorem dX12_lifeOrDeath_27 : decode cX12_lifeOrDeath 27 = .ok (.i2l, 1) := by decide +kernel
theorem dX12_lifeOrDeath_28 : decode cX12_lifeOrDeath 28 = .ok (.lconst 0, 1) := by decide +kernel
theorem dX12_lifeOrDeath_29 : decode cX12_lifeOrDeath 29 = .ok (.aload_n 0, 1) := by decide +kernel
theorem dX12_lifeOrDeath_30 : decode cX12_lifeOrDeath 30 = .ok (.getfield 254, 3) := by decide +kernel
theorem dX12_lifeOrDeath_33 : decode cX12_lifeOrDeath 33 = .ok (.iconst 1, 1) := by decide +kernel
theorem dX12_lifeOrDeath_34 : decode cX12_lifeOrDeath 34 = .ok (.isub, 1) := by decide +kernel
theorem dX12_lifeOrDeath_35 : decode cX12_lifeOrDeath 35 = .ok (.i2l, 1) := by decide +kernel
theorem dX12_lifeOrDeath_36 : decode cX12_lifeOrDeath 36 = .ok (.invokestatic 91, 3) := by decide +kernel
theorem dX12_lifeOrDeath_39 : decode cX12_lifeOrDeath 39 = .ok (.istore 7, 2) := by decide +kernel
theorem dX12_lifeOrDeath_41 : decode cX12_lifeOrDeath 41 = .ok (.aconst_null, 1) := by decide +kernel
theorem dX12_lifeOrDeath_42 : decode cX12_lifeOrDeath 42 = .ok (.astore 8, 2) := by decide +kernel
theorem dX12_lifeOrDeath_44 : decode cX12_lifeOrDeath 44 = .ok (.iload 6, 2) := by decide +kernel
theorem dX12_lifeOrDeath_46 : decode cX12_lifeOrDeath 46 = .ok (.ifCond .eq 59, 3) := by decide +kernel
theorem dX12_lifeOrDeath_49 : decode cX12_lifeOrDeath 49 = .ok (.iload 7, 2) := by decide +kernel
theorem dX12_lifeOrDeath_5 : decode cX12_lifeOrDeath 5 = .ok (.invokestatic 91, 3) := by decide +kernel
theorem dX12_lifeOrDeath_51 : decode cX12_lifeOrDeath 51 = .ok (.ifCond .eq 54, 3) := by decide +kernel
theorem dX12_lifeOrDeath_8 : decode cX12_lifeOrDeath 8 = .ok (.ifCond .eq 15, 3) := by decide +kernel
theorem dX12_lifeWorth_0 : decode cX12_lifeWorth 0 = .ok (.aload_n 0, 1) := by decide +kernel
theorem dX12_lifeWorth_1 : decode cX12_lifeWorth 1 = .ok (.iload_n 1, 1) := by decide +kernel
theorem dX12_lifeWorth_2 : decode cX12_lifeWorth 2 = .ok (.lload_n 2, 1) := by decide +kernel
theorem dX12_lifeWorth_3 : decode cX12_lifeWorth 3 = .ok (.iload 4, 2) := by decide +kernel
theorem dX12_lifeWorth_5 : decode cX12_lifeWorth 5 = .ok (.iconst 0, 1) := by decide +kernel
theorem dX12_lifeWorth_6 : decode cX12_lifeWorth 6 = .ok (.invokevirtual 269, 3) := by decide +kernel
theorem dX12_lifeWorth_9 : decode cX12_lifeWorth 9 = .ok (.lreturn, 1) := by decide +kernel
theorem dX12_payMany_0 : decode cX12_payMany 0 = .ok (.iload_n 1, 1) := by decide +kernel
theorem dX12_payMany_1 : decode cX12_payMany 1 = .ok (.i2l, 1) := by decide +kernel
theorem dX12_payMany_110 : decode cX12_payMany 110 = .ok (.aload_n 0, 1) := by decide +kernel
theorem dX12_payMany_111 : decode cX12_payMany 111 = .ok (.iload 7, 2) := by decide +kernel
theorem dX12_payMany_113 : decode cX12_payMany 113 = .ok (.iload 8, 2) := by decide +kernel
theorem dX12_payMany_115 : decode cX12_payMany 115 = .ok (.iconst 1, 1) := by decide +kernel
theorem dX12_payMany_116 : decode cX12_payMany 116 = .ok (.invokevirtual 95, 3) := by decide +kernel
theorem dX12_payMany_119 : decode cX12_payMany 119 = .ok (.ifCond .ne 5, 3) := by decide +kernel
theorem dX12_payMany_12 : decode cX12_payMany 12 = .ok (.iload_n 2, 1) := by decide +kernel
theorem dX12_payMany_122 : decode cX12_payMany 122 = .ok (.iconst 0, 1) := by decide +kernel
theorem dX12_payMany_123 : decode cX12_payMany 123 = .ok (.ireturn, 1) := by decide +kernel
theorem dX12_payMany_13 : decode cX12_payMany 13 = .ok (.i2l, 1) := by decide +kernel
theorem dX12_payMany_14 : decode cX12_payMany 14 = .ok (.lconst 1, 1) := by decide +kernel
theorem dX12_payMany_15 : decode cX12_payMany 15 = .ok (.ldc2_w 131, 3) := by decide +kernel
theorem dX12_payMany_18 : decode cX12_payMany 18 = .ok (.invokestatic 91, 3) := by decide +kernel
theorem dX12_payMany_2 : decode cX12_payMany 2 = .ok (.lconst 0, 1) := by decide +kernel
theorem dX12_payMany_21 : decode cX12_payMany 21 = .ok (.ifCond .eq 36, 3) := by decide +kernel
theorem dX12_payMany_24 : decode cX12_payMany 24 = .ok (.lload_n 3, 1) := by decide +kernel
theorem dX12_payMany_25 : decode cX12_payMany 25 = .ok (.invokestatic 127, 3) := by decide +kernel
theorem dX12_payMany_28 : decode cX12_payMany 28 = .ok (.ifCond .eq 29, 3) := by decide +kernel
theorem dX12_payMany_3 : decode cX12_payMany 3 = .ok (.ldc2_w 125, 3) := by decide +kernel
theorem dX12_payMany_31 : decode cX12_payMany 31 = .ok (.lload 5, 2) := by decide +kernel
theorem dX12_payMany_33 : decode cX12_payMany 33 = .ok (.ldc2_w 133, 3) := by decide +kernel
theorem dX12_payMany_36 : decode cX12_payMany 36 = .ok (.ldc2_w 135, 3) := by decide +kernel
theorem dX12_payMany_39 : decode cX12_payMany 39 = .ok (.invokestatic 91, 3) := by decide +kernel
theorem dX12_payMany_42 : decode cX12_payMany 42 = .ok (.ifCond .eq 15, 3) := by decide +kernel
theorem dX12_payMany_45 : decode cX12_payMany 45 = .ok (.iload_n 1, 1) := by decide +kernel
theorem dX12_payMany_46 : decode cX12_payMany 46 = .ok (.iload_n 2, 1) := by decide +kernel
theorem dX12_payMany_47 : decode cX12_payMany 47 = .ok (.iadd, 1) := by decide +kernel
theorem dX12_payMany_48 : decode cX12_payMany 48 = .ok (.bipush 41, 2) := by decide +kernel
theorem dX12_payMany_50 : decode cX12_payMany 50 = .ok (.if_icmp .gt 7, 3) := by decide +kernel
theorem dX12_payMany_57 : decode cX12_payMany 57 = .ok (.iconst 0, 1) := by decide +kernel
theorem dX12_payMany_58 : decode cX12_payMany 58 = .ok (.istore 7, 2) := by decide +kernel
theorem dX12_payMany_6 : decode cX12_payMany 6 = .ok (.invokestatic 91, 3) := by decide +kernel
theorem dX12_payMany_60 : decode cX12_payMany 60 = .ok (.iload 7, 2) := by decide +kernel
theorem dX12_payMany_62 : decode cX12_payMany 62 = .ok (.istore 8, 2) := by decide +kernel
theorem dX12_payMany_64 : decode cX12_payMany 64 = .ok (.iconst 0, 1) := by decide +kernel
theorem dX12_payMany_65 : decode cX12_payMany 65 = .ok (.istore 9, 2) := by decide +kernel
theorem dX12_payMany_67 : decode cX12_payMany 67 = .ok (.iload 7, 2) := by decide +kernel
theorem dX12_payMany_69 : decode cX12_payMany 69 = .ok (.ifCond .eq 41, 3) := by decide +kernel
theorem dX12_payMany_9 : decode cX12_payMany 9 = .ok (.ifCond .eq 48, 3) := by decide +kernel
theorem dX12_premium_0 : decode cX12_premium 0 = .ok (.lload_n 2, 1) := by decide +kernel
theorem dX12_premium_1 : decode cX12_premium 1 = .ok (.lconst 0, 1) := by decide +kernel
theorem dX12_premium_101 : decode cX12_premium 101 = .ok (.ifCond .eq 12, 3) := by decide +kernel
theorem dX12_premium_11 : decode cX12_premium 11 = .ok (.iload 4, 2) := by decide +kernel
theorem dX12_premium_113 : decode cX12_premium 113 = .ok (.lconst 0, 1) := by decide +kernel
theorem dX12_premium_114 : decode cX12_premium 114 = .ok (.lreturn, 1) := by decide +kernel
theorem dX12_premium_13 : decode cX12_premium 13 = .ok (.invokestatic 147, 3) := by decide +kernel
theorem dX12_premium_16 : decode cX12_premium 16 = .ok (.ifCond .eq 7, 3) := by decide +kernel
theorem dX12_premium_19 : decode cX12_premium 19 = .ok (.iconst 1, 1) := by decide +kernel
theorem dX12_premium_2 : decode cX12_premium 2 = .ok (.ldc2_w 121, 3) := by decide +kernel
theorem dX12_premium_20 : decode cX12_premium 20 = .ok (.goto 4, 3) := by decide +kernel
theorem dX12_premium_23 : decode cX12_premium 23 = .ok (.iconst 0, 1) := by decide +kernel
theorem dX12_premium_24 : decode cX12_premium 24 = .ok (.istore 5, 2) := by decide +kernel
theorem dX12_premium_26 : decode cX12_premium 26 = .ok (.iload_n 1, 1) := by decide +kernel
theorem dX12_premium_27 : decode cX12_premium 27 = .ok (.i2l, 1) := by decide +kernel
theorem dX12_premium_28 : decode cX12_premium 28 = .ok (.lconst 0, 1) := by decide +kernel
theorem dX12_premium_29 : decode cX12_premium 29 = .ok (.aload_n 0, 1) := by decide +kernel
theorem dX12_premium_30 : decode cX12_premium 30 = .ok (.getfield 254, 3) := by decide +kernel
theorem dX12_premium_33 : decode cX12_premium 33 = .ok (.iconst 1, 1) := by decide +kernel
theorem dX12_premium_34 : decode cX12_premium 34 = .ok (.isub, 1) := by decide +kernel
theorem dX12_premium_35 : decode cX12_premium 35 = .ok (.i2l, 1) := by decide +kernel
theorem dX12_premium_36 : decode cX12_premium 36 = .ok (.invokestatic 91, 3) := by decide +kernel
theorem dX12_premium_39 : decode cX12_premium 39 = .ok (.istore 6, 2) := by decide +kernel
theorem dX12_premium_41 : decode cX12_premium 41 = .ok (.aconst_null, 1) := by decide +kernel
theorem dX12_premium_42 : decode cX12_premium 42 = .ok (.astore 7, 2) := by decide +kernel
theorem dX12_premium_44 : decode cX12_premium 44 = .ok (.iload 5, 2) := by decide +kernel
theorem dX12_premium_46 : decode cX12_premium 46 = .ok (.ifCond .eq 37, 3) := by decide +kernel
theorem dX12_premium_49 : decode cX12_premium 49 = .ok (.iload 6, 2) := by decide +kernel
theorem dX12_premium_5 : decode cX12_premium 5 = .ok (.invokestatic 91, 3) := by decide +kernel
theorem dX12_premium_51 : decode cX12_premium 51 = .ok (.ifCond .eq 32, 3) := by decide +kernel
theorem dX12_premium_8 : decode cX12_premium 8 = .ok (.ifCond .eq 15, 3) := by decide +kernel
theorem dX12_premium_83 : decode cX12_premium 83 = .ok (.aload_n 0, 1) := by decide +kernel
theorem dX12_premium_84 : decode cX12_premium 84 = .ok (.iload 5, 2) := by decide +kernel
theorem dX12_premium_86 : decode cX12_premium 86 = .ok (.iload 6, 2) := by decide +kernel
theorem dX12_premium_88 : decode cX12_premium 88 = .ok (.aload 7, 2) := by decide +kernel
theorem dX12_premium_90 : decode cX12_premium 90 = .ok (.ifnull 7, 3) := by decide +kernel
theorem dX12_premium_97 : decode cX12_premium 97 = .ok (.iconst 0, 1) := by decide +kernel
theorem dX12_premium_98 : decode cX12_premium 98 = .ok (.invokevirtual 95, 3) := by decide +kernel
theorem dX12_reserve_0 : decode cX12_reserve 0 = .ok (.iload_n 2, 1) := by decide +kernel
theorem dX12_reserve_1 : decode cX12_reserve 1 = .ok (.ifCond .lt 26, 3) := by decide +kernel
theorem dX12_reserve_109 : decode cX12_reserve 109 = .ok (.aload_n 0, 1) := by decide +kernel
theorem dX12_reserve_110 : decode cX12_reserve 110 = .ok (.iload 7, 2) := by decide +kernel
theorem dX12_reserve_112 : decode cX12_reserve 112 = .ok (.iload 8, 2) := by decide +kernel
theorem dX12_reserve_114 : decode cX12_reserve 114 = .ok (.aload 9, 2) := by decide +kernel
theorem dX12_reserve_116 : decode cX12_reserve 116 = .ok (.ifnull 7, 3) := by decide +kernel
theorem dX12_reserve_12 : decode cX12_reserve 12 = .ok (.ifCond .eq 15, 3) := by decide +kernel
theorem dX12_reserve_123 : decode cX12_reserve 123 = .ok (.iconst 0, 1) := by decide +kernel
theorem dX12_reserve_124 : decode cX12_reserve 124 = .ok (.invokevirtual 95, 3) := by decide +kernel
theorem dX12_reserve_127 : decode cX12_reserve 127 = .ok (.ifCond .eq 12, 3) := by decide +kernel
theorem dX12_reserve_139 : decode cX12_reserve 139 = .ok (.lconst 0, 1) := by decide +kernel
theorem dX12_reserve_140 : decode cX12_reserve 140 = .ok (.lreturn, 1) := by decide +kernel
theorem dX12_reserve_15 : decode cX12_reserve 15 = .ok (.iload 5, 2) := by decide +kernel
theorem dX12_reserve_17 : decode cX12_reserve 17 = .ok (.invokestatic 147, 3) := by decide +kernel
theorem dX12_reserve_20 : decode cX12_reserve 20 = .ok (.ifCond .eq 7, 3) := by decide +kernel
theorem dX12_reserve_23 : decode cX12_reserve 23 = .ok (.iconst 1, 1) := by decide +kernel
theorem dX12_reserve_24 : decode cX12_reserve 24 = .ok (.goto 4, 3) := by decide +kernel
theorem dX12_reserve_27 : decode cX12_reserve 27 = .ok (.iconst 0, 1) := by decide +kernel
theorem dX12_reserve_28 : decode cX12_reserve 28 = .ok (.istore 7, 2) := by decide +kernel
theorem dX12_reserve_30 : decode cX12_reserve 30 = .ok (.iload_n 1, 1) := by decide +kernel
theorem dX12_reserve_31 : decode cX12_reserve 31 = .ok (.i2l, 1) := by decide +kernel
theorem dX12_reserve_32 : decode cX12_reserve 32 = .ok (.lconst 0, 1) := by decide +kernel
theorem dX12_reserve_33 : decode cX12_reserve 33 = .ok (.aload_n 0, 1) := by decide +kernel
theorem dX12_reserve_34 : decode cX12_reserve 34 = .ok (.getfield 254, 3) := by decide +kernel
theorem dX12_reserve_37 : decode cX12_reserve 37 = .ok (.iconst 1, 1) := by decide +kernel
theorem dX12_reserve_38 : decode cX12_reserve 38 = .ok (.isub, 1) := by decide +kernel
theorem dX12_reserve_39 : decode cX12_reserve 39 = .ok (.i2l, 1) := by decide +kernel
theorem dX12_reserve_4 : decode cX12_reserve 4 = .ok (.lload_n 3, 1) := by decide +kernel
theorem dX12_reserve_40 : decode cX12_reserve 40 = .ok (.invokestatic 91, 3) := by decide +kernel
theorem dX12_reserve_43 : decode cX12_reserve 43 = .ok (.ifCond .eq 17, 3) := by decide +kernel
theorem dX12_reserve_5 : decode cX12_reserve 5 = .ok (.lconst 0, 1) := by decide +kernel
theorem dX12_reserve_6 : decode cX12_reserve 6 = .ok (.ldc2_w 121, 3) := by decide +kernel
theorem dX12_reserve_60 : decode cX12_reserve 60 = .ok (.iconst 0, 1) := by decide +kernel
theorem dX12_reserve_61 : decode cX12_reserve 61 = .ok (.istore 8, 2) := by decide +kernel
theorem dX12_reserve_63 : decode cX12_reserve 63 = .ok (.aconst_null, 1) := by decide +kernel
theorem dX12_reserve_64 : decode cX12_reserve 64 = .ok (.astore 9, 2) := by decide +kernel
theorem dX12_reserve_66 : decode cX12_reserve 66 = .ok (.iload 7, 2) := by decide +kernel
theorem dX12_reserve_68 : decode cX12_reserve 68 = .ok (.ifCond .eq 41, 3) := by decide +kernel
theorem dX12_reserve_71 : decode cX12_reserve 71 = .ok (.iload 8, 2) := by decide +kernel
theorem dX12_reserve_73 : decode cX12_reserve 73 = .ok (.ifCond .eq 36, 3) := by decide +kernel
theorem dX12_reserve_9 : decode cX12_reserve 9 = .ok (.invokestatic 91, 3) := by decide +kernel
set_option maxRecDepth 20000 in
theorem ggX12_deathWorth_X12_lifeOrDeath : GoodIn wsX12_deathWorth wsX12_lifeOrDeath := goodIn_r _ [5, 6, 7, 8, 9, 10, 11, 4, 12, 13, 14, 15, 16, 17, 18, 19, 20, 21, 22, 23, 24, 25, 26, 27, 28, 29, 30, 31, 32, 33, 34, 35, 36, 37, 38, 39, 40, 41, 42, 43, 44, 45, 46, 47, 48, 49, 50, 51, 52, 53, 54, 55, 56, 57, 58, 59, 60, 61, 62, 63, 64, 65, 66, 67, 68, 69, 70, 71, 72, 73, 74, 75, 76, 77, 78, 79, 80, 81, 82, 83, 84, 85, 86, 87, 88, 89, 90, 91, 92, 93, 94, 95, 96, 97, 98, 99, 100, 101, 102, 103, 104, 105, 106, 107, 108, 109, 110, 111, 112, 113, 114, 115, 116, 117, 118, 119, 120, 121, 122, 123, 124, 125, 126, 127, 128, 129, 130, 131, 132, 133, 134, 135, 136, 137, 138, 139, 140, 141, 142, 143, 144, 145, 146, 147, 148, 149, 150, 151, 152, 153, 154, 155, 156] (by decide +kernel) (by decide +kernel)
set_option maxRecDepth 20000 in
theorem gX12_deathWorth_X12_lifeOrDeath : GoodIn wsX12_deathWorth (wsV RX12 269 RX12 yX12_lifeOrDeath wsX12_lifeOrDeath) := goodIn_app (goodIn_of _ (by decide +kernel)) ggX12_deathWorth_X12_lifeOrDeath
set_option maxRecDepth 20000 in
theorem ggX12_isBond_X12_in : GoodIn wsX12_isBond wsX12_in := goodIn_r _ [6] (by decide +kernel) (by decide +kernel)
set_option maxRecDepth 20000 in
theorem gX12_isBond_X12_in : GoodIn wsX12_isBond (va_wsS RX12 91 yX12_in wsX12_in) := goodIn_app (goodIn_of _ (by decide +kernel)) ggX12_isBond_X12_in
set_option maxRecDepth 20000 in
theorem ggX12_lifeOrDeath_X12_in : GoodIn wsX12_lifeOrDeath wsX12_in := goodIn_r _ [8] (by decide +kernel) (by decide +kernel)
set_option maxRecDepth 20000 in
theorem gX12_lifeOrDeath_X12_in : GoodIn wsX12_lifeOrDeath (va_wsS RX12 91 yX12_in wsX12_in) := goodIn_app (goodIn_of _ (by decide +kernel)) ggX12_lifeOrDeath_X12_in
set_option maxRecDepth 20000 in
theorem ggX12_lifeOrDeath_X12_isRate : GoodIn wsX12_lifeOrDeath wsX12_isRate := goodIn_r _ [11, 12, 5, 6, 7, 8] (by decide +kernel) (by decide +kernel)
set_option maxRecDepth 20000 in
theorem gX12_lifeOrDeath_X12_isRate : GoodIn wsX12_lifeOrDeath (va_wsS RX12 147 yX12_isRate wsX12_isRate) := goodIn_app (goodIn_of _ (by decide +kernel)) ggX12_lifeOrDeath_X12_isRate
set_option maxRecDepth 20000 in
theorem ggX12_lifeOrDeath_X12_passes : GoodIn wsX12_lifeOrDeath wsX12_passes := goodIn_r _ [129, 130, 139, 140, 141, 142, 143, 144, 145, 146, 147, 148, 149, 150] (by decide +kernel) (by decide +kernel)
set_option maxRecDepth 20000 in
theorem gX12_lifeOrDeath_X12_passes : GoodIn wsX12_lifeOrDeath (wsV RX12 95 RX12 yX12_passes wsX12_passes) := goodIn_app (goodIn_of _ (by decide +kernel)) ggX12_lifeOrDeath_X12_passes
set_option maxRecDepth 20000 in
theorem ggX12_lifeWorth_X12_lifeOrDeath : GoodIn wsX12_lifeWorth wsX12_lifeOrDeath := goodIn_r _ [5, 6, 7, 8, 9, 10, 11, 4, 12, 13, 14, 15, 16, 17, 18, 19, 20, 21, 22, 23, 24, 25, 26, 27, 28, 29, 30, 31, 32, 33, 34, 35, 36, 37, 38, 39, 40, 41, 42, 43, 44, 45, 46, 47, 48, 49, 50, 51, 52, 53, 54, 55, 56, 57, 58, 59, 60, 61, 62, 63, 64, 65, 66, 67, 68, 69, 70, 71, 72, 73, 74, 75, 76, 77, 78, 79, 80, 81, 82, 83, 84, 85, 86, 87, 88, 89, 90, 91, 92, 93, 94, 95, 96, 97, 98, 99, 100, 101, 102, 103, 104, 105, 106, 107, 108, 109, 110, 111, 112, 113, 114, 115, 116, 117, 118, 119, 120, 121, 122, 123, 124, 125, 126, 127, 128, 129, 130, 131, 132, 133, 134, 135, 136, 137, 138, 139, 140, 141, 142, 143, 144, 145, 146, 147, 148, 149, 150, 151, 152, 153, 154, 155, 156] (by decide +kernel) (by decide +kernel)
set_option maxRecDepth 20000 in
theorem gX12_lifeWorth_X12_lifeOrDeath : GoodIn wsX12_lifeWorth (wsV RX12 269 RX12 yX12_lifeOrDeath wsX12_lifeOrDeath) := goodIn_app (goodIn_of _ (by decide +kernel)) ggX12_lifeWorth_X12_lifeOrDeath
set_option maxRecDepth 20000 in
theorem ggX12_payMany_X12_in : GoodIn wsX12_payMany wsX12_in := goodIn_r _ [9] (by decide +kernel) (by decide +kernel)
set_option maxRecDepth 20000 in
theorem gX12_payMany_X12_in : GoodIn wsX12_payMany (va_wsS RX12 91 yX12_in wsX12_in) := goodIn_app (goodIn_of _ (by decide +kernel)) ggX12_payMany_X12_in
set_option maxRecDepth 20000 in
theorem ggX12_payMany_X12_isAmount : GoodIn wsX12_payMany wsX12_isAmount := goodIn_r _ [12, 13, 14, 6, 7, 8, 9] (by decide +kernel) (by decide +kernel)
set_option maxRecDepth 20000 in
theorem gX12_payMany_X12_isAmount : GoodIn wsX12_payMany (va_wsS RX12 127 yX12_isAmount wsX12_isAmount) := goodIn_app (goodIn_of _ (by decide +kernel)) ggX12_payMany_X12_isAmount
set_option maxRecDepth 20000 in
theorem ggX12_payMany_X12_passes : GoodIn wsX12_payMany wsX12_passes := goodIn_r _ [18, 19, 24, 25, 26, 27, 28, 29, 30, 31, 32, 33, 34, 35] (by decide +kernel) (by decide +kernel)
set_option maxRecDepth 20000 in
theorem gX12_payMany_X12_passes : GoodIn wsX12_payMany (wsV RX12 95 RX12 yX12_passes wsX12_passes) := goodIn_app (goodIn_of _ (by decide +kernel)) ggX12_payMany_X12_passes
set_option maxRecDepth 20000 in
theorem ggX12_premium_X12_in : GoodIn wsX12_premium wsX12_in := goodIn_r _ [6] (by decide +kernel) (by decide +kernel)
set_option maxRecDepth 20000 in
theorem gX12_premium_X12_in : GoodIn wsX12_premium (va_wsS RX12 91 yX12_in wsX12_in) := goodIn_app (goodIn_of _ (by decide +kernel)) ggX12_premium_X12_in
set_option maxRecDepth 20000 in
theorem ggX12_premium_X12_isRate : GoodIn wsX12_premium wsX12_isRate := goodIn_r _ [9, 10, 3, 4, 5, 6] (by decide +kernel) (by decide +kernel)
set_option maxRecDepth 20000 in
theorem gX12_premium_X12_isRate : GoodIn wsX12_premium (va_wsS RX12 147 yX12_isRate wsX12_isRate) := goodIn_app (goodIn_of _ (by decide +kernel)) ggX12_premium_X12_isRate
set_option maxRecDepth 20000 in
theorem ggX12_premium_X12_passes : GoodIn wsX12_premium wsX12_passes := goodIn_r _ [129, 130, 139, 140, 141, 142, 143, 144, 145, 146, 147, 148, 149, 150] (by decide +kernel) (by decide +kernel)
set_option maxRecDepth 20000 in
theorem gX12_premium_X12_passes : GoodIn wsX12_premium (wsV RX12 95 RX12 yX12_passes wsX12_passes) := goodIn_app (goodIn_of _ (by decide +kernel)) ggX12_premium_X12_passes
set_option maxRecDepth 20000 in
theorem ggX12_reserve_X12_in : GoodIn wsX12_reserve wsX12_in := goodIn_r _ [6] (by decide +kernel) (by decide +kernel)
set_option maxRecDepth 20000 in
theorem gX12_reserve_X12_in : GoodIn wsX12_reserve (va_wsS RX12 91 yX12_in wsX12_in) := goodIn_app (goodIn_of _ (by decide +kernel)) ggX12_reserve_X12_in
set_option maxRecDepth 20000 in
theorem ggX12_reserve_X12_isRate : GoodIn wsX12_reserve wsX12_isRate := goodIn_r _ [9, 10, 3, 4, 5, 6] (by decide +kernel) (by decide +kernel)
set_option maxRecDepth 20000 in
theorem gX12_reserve_X12_isRate : GoodIn wsX12_reserve (va_wsS RX12 147 yX12_isRate wsX12_isRate) := goodIn_app (goodIn_of _ (by decide +kernel)) ggX12_reserve_X12_isRate
set_option maxRecDepth 20000 in
theorem ggX12_reserve_X12_passes : GoodIn wsX12_reserve wsX12_passes := goodIn_r _ [139, 140, 149, 150, 151, 152, 153, 154, 155, 156, 157, 158, 159, 160] (by decide +kernel) (by decide +kernel)
set_option maxRecDepth 20000 in
theorem gX12_reserve_X12_passes : GoodIn wsX12_reserve (wsV RX12 95 RX12 yX12_passes wsX12_passes) := goodIn_app (goodIn_of _ (by decide +kernel)) ggX12_reserve_X12_passes
