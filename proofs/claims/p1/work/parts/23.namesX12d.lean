-- printed rows that the walks use
theorem dX12_bondYield_0 : decode cX12_bondYield 0 = .ok (.aload_n 0, 1) := by decide +kernel
theorem dX12_bondYield_1 : decode cX12_bondYield 1 = .ok (.lload_n 1, 1) := by decide +kernel
theorem dX12_bondYield_101 : decode cX12_bondYield 101 = .ok (.goto 5, 3) := by decide +kernel
theorem dX12_bondYield_104 : decode cX12_bondYield 104 = .ok (.iload 9, 2) := by decide +kernel
theorem dX12_bondYield_106 : decode cX12_bondYield 106 = .ok (.istore 9, 2) := by decide +kernel
theorem dX12_bondYield_108 : decode cX12_bondYield 108 = .ok (.iload 11, 2) := by decide +kernel
theorem dX12_bondYield_11 : decode cX12_bondYield 11 = .ok (.lload 6, 2) := by decide +kernel
theorem dX12_bondYield_110 : decode cX12_bondYield 110 = .ok (.ifCond .eq 8, 3) := by decide +kernel
theorem dX12_bondYield_113 : decode cX12_bondYield 113 = .ok (.iload 8, 2) := by decide +kernel
theorem dX12_bondYield_115 : decode cX12_bondYield 115 = .ok (.goto 5, 3) := by decide +kernel
theorem dX12_bondYield_118 : decode cX12_bondYield 118 = .ok (.iload 10, 2) := by decide +kernel
theorem dX12_bondYield_120 : decode cX12_bondYield 120 = .ok (.istore 8, 2) := by decide +kernel
theorem dX12_bondYield_122 : decode cX12_bondYield 122 = .ok (.goto (-59), 3) := by decide +kernel
theorem dX12_bondYield_125 : decode cX12_bondYield 125 = .ok (.iload 9, 2) := by decide +kernel
theorem dX12_bondYield_127 : decode cX12_bondYield 127 = .ok (.ireturn, 1) := by decide +kernel
theorem dX12_bondYield_13 : decode cX12_bondYield 13 = .ok (.lconst 0, 1) := by decide +kernel
theorem dX12_bondYield_14 : decode cX12_bondYield 14 = .ok (.ldc2_w 101, 3) := by decide +kernel
theorem dX12_bondYield_17 : decode cX12_bondYield 17 = .ok (.invokestatic 91, 3) := by decide +kernel
theorem dX12_bondYield_2 : decode cX12_bondYield 2 = .ok (.lload_n 3, 1) := by decide +kernel
theorem dX12_bondYield_20 : decode cX12_bondYield 20 = .ok (.ifCond .eq 7, 3) := by decide +kernel
theorem dX12_bondYield_23 : decode cX12_bondYield 23 = .ok (.iconst 1, 1) := by decide +kernel
theorem dX12_bondYield_24 : decode cX12_bondYield 24 = .ok (.goto 4, 3) := by decide +kernel
theorem dX12_bondYield_27 : decode cX12_bondYield 27 = .ok (.iconst 0, 1) := by decide +kernel
theorem dX12_bondYield_28 : decode cX12_bondYield 28 = .ok (.iconst 1, 1) := by decide +kernel
theorem dX12_bondYield_29 : decode cX12_bondYield 29 = .ok (.iconst 1, 1) := by decide +kernel
theorem dX12_bondYield_3 : decode cX12_bondYield 3 = .ok (.iload 5, 2) := by decide +kernel
theorem dX12_bondYield_30 : decode cX12_bondYield 30 = .ok (.invokevirtual 95, 3) := by decide +kernel
theorem dX12_bondYield_33 : decode cX12_bondYield 33 = .ok (.ifCond .ne 5, 3) := by decide +kernel
theorem dX12_bondYield_36 : decode cX12_bondYield 36 = .ok (.iconst 0, 1) := by decide +kernel
theorem dX12_bondYield_37 : decode cX12_bondYield 37 = .ok (.ireturn, 1) := by decide +kernel
theorem dX12_bondYield_38 : decode cX12_bondYield 38 = .ok (.lload_n 1, 1) := by decide +kernel
theorem dX12_bondYield_39 : decode cX12_bondYield 39 = .ok (.lload_n 3, 1) := by decide +kernel
theorem dX12_bondYield_40 : decode cX12_bondYield 40 = .ok (.iload 5, 2) := by decide +kernel
theorem dX12_bondYield_42 : decode cX12_bondYield 42 = .ok (.sipush 20000, 3) := by decide +kernel
theorem dX12_bondYield_45 : decode cX12_bondYield 45 = .ok (.lload 6, 2) := by decide +kernel
theorem dX12_bondYield_47 : decode cX12_bondYield 47 = .ok (.invokestatic 248, 3) := by decide +kernel
theorem dX12_bondYield_5 : decode cX12_bondYield 5 = .ok (.invokestatic 240, 3) := by decide +kernel
theorem dX12_bondYield_50 : decode cX12_bondYield 50 = .ok (.ifCond .ne 5, 3) := by decide +kernel
theorem dX12_bondYield_53 : decode cX12_bondYield 53 = .ok (.iconst (-1), 1) := by decide +kernel
theorem dX12_bondYield_54 : decode cX12_bondYield 54 = .ok (.ireturn, 1) := by decide +kernel
theorem dX12_bondYield_55 : decode cX12_bondYield 55 = .ok (.iconst (-1), 1) := by decide +kernel
theorem dX12_bondYield_56 : decode cX12_bondYield 56 = .ok (.istore 8, 2) := by decide +kernel
theorem dX12_bondYield_58 : decode cX12_bondYield 58 = .ok (.sipush 20000, 3) := by decide +kernel
theorem dX12_bondYield_61 : decode cX12_bondYield 61 = .ok (.istore 9, 2) := by decide +kernel
theorem dX12_bondYield_63 : decode cX12_bondYield 63 = .ok (.iload 9, 2) := by decide +kernel
theorem dX12_bondYield_65 : decode cX12_bondYield 65 = .ok (.iload 8, 2) := by decide +kernel
theorem dX12_bondYield_67 : decode cX12_bondYield 67 = .ok (.isub, 1) := by decide +kernel
theorem dX12_bondYield_68 : decode cX12_bondYield 68 = .ok (.iconst 1, 1) := by decide +kernel
theorem dX12_bondYield_69 : decode cX12_bondYield 69 = .ok (.if_icmp .le 56, 3) := by decide +kernel
theorem dX12_bondYield_72 : decode cX12_bondYield 72 = .ok (.iload 8, 2) := by decide +kernel
theorem dX12_bondYield_74 : decode cX12_bondYield 74 = .ok (.iload 9, 2) := by decide +kernel
theorem dX12_bondYield_76 : decode cX12_bondYield 76 = .ok (.iadd, 1) := by decide +kernel
theorem dX12_bondYield_77 : decode cX12_bondYield 77 = .ok (.iconst 2, 1) := by decide +kernel
theorem dX12_bondYield_78 : decode cX12_bondYield 78 = .ok (.idiv, 1) := by decide +kernel
theorem dX12_bondYield_79 : decode cX12_bondYield 79 = .ok (.istore 10, 2) := by decide +kernel
theorem dX12_bondYield_8 : decode cX12_bondYield 8 = .ok (.ifCond .eq 19, 3) := by decide +kernel
theorem dX12_bondYield_81 : decode cX12_bondYield 81 = .ok (.lload_n 1, 1) := by decide +kernel
theorem dX12_bondYield_82 : decode cX12_bondYield 82 = .ok (.lload_n 3, 1) := by decide +kernel
theorem dX12_bondYield_83 : decode cX12_bondYield 83 = .ok (.iload 5, 2) := by decide +kernel
theorem dX12_bondYield_85 : decode cX12_bondYield 85 = .ok (.iload 10, 2) := by decide +kernel
theorem dX12_bondYield_87 : decode cX12_bondYield 87 = .ok (.lload 6, 2) := by decide +kernel
theorem dX12_bondYield_89 : decode cX12_bondYield 89 = .ok (.invokestatic 248, 3) := by decide +kernel
theorem dX12_bondYield_92 : decode cX12_bondYield 92 = .ok (.istore 11, 2) := by decide +kernel
theorem dX12_bondYield_94 : decode cX12_bondYield 94 = .ok (.iload 11, 2) := by decide +kernel
theorem dX12_bondYield_96 : decode cX12_bondYield 96 = .ok (.ifCond .eq 8, 3) := by decide +kernel
theorem dX12_bondYield_99 : decode cX12_bondYield 99 = .ok (.iload 10, 2) := by decide +kernel
theorem dX12_isCheap_0 : decode cX12_isCheap 0 = .ok (.lload_n 0, 1) := by decide +kernel
theorem dX12_isCheap_1 : decode cX12_isCheap 1 = .ok (.lload_n 2, 1) := by decide +kernel
theorem dX12_isCheap_12 : decode cX12_isCheap 12 = .ok (.iload 5, 2) := by decide +kernel
theorem dX12_isCheap_14 : decode cX12_isCheap 14 = .ok (.i2l, 1) := by decide +kernel
theorem dX12_isCheap_15 : decode cX12_isCheap 15 = .ok (.ladd, 1) := by decide +kernel
theorem dX12_isCheap_16 : decode cX12_isCheap 16 = .ok (.iload 4, 2) := by decide +kernel
theorem dX12_isCheap_18 : decode cX12_isCheap 18 = .ok (.invokestatic 107, 3) := by decide +kernel
theorem dX12_isCheap_2 : decode cX12_isCheap 2 = .ok (.iload 4, 2) := by decide +kernel
theorem dX12_isCheap_21 : decode cX12_isCheap 21 = .ok (.lload 6, 2) := by decide +kernel
theorem dX12_isCheap_23 : decode cX12_isCheap 23 = .ok (.invokestatic 7, 3) := by decide +kernel
theorem dX12_isCheap_26 : decode cX12_isCheap 26 = .ok (.invokevirtual 13, 3) := by decide +kernel
theorem dX12_isCheap_29 : decode cX12_isCheap 29 = .ok (.invokevirtual 167, 3) := by decide +kernel
theorem dX12_isCheap_32 : decode cX12_isCheap 32 = .ok (.getfield 39, 3) := by decide +kernel
theorem dX12_isCheap_35 : decode cX12_isCheap 35 = .ok (.ifCond .gt 7, 3) := by decide +kernel
theorem dX12_isCheap_38 : decode cX12_isCheap 38 = .ok (.iconst 1, 1) := by decide +kernel
theorem dX12_isCheap_39 : decode cX12_isCheap 39 = .ok (.goto 4, 3) := by decide +kernel
theorem dX12_isCheap_4 : decode cX12_isCheap 4 = .ok (.iload 5, 2) := by decide +kernel
theorem dX12_isCheap_42 : decode cX12_isCheap 42 = .ok (.iconst 0, 1) := by decide +kernel
theorem dX12_isCheap_43 : decode cX12_isCheap 43 = .ok (.ireturn, 1) := by decide +kernel
theorem dX12_isCheap_6 : decode cX12_isCheap 6 = .ok (.invokestatic 244, 3) := by decide +kernel
theorem dX12_isCheap_9 : decode cX12_isCheap 9 = .ok (.ldc2_w 145, 3) := by decide +kernel
theorem dX12_priceTop_0 : decode cX12_priceTop 0 = .ok (.getstatic 141, 3) := by decide +kernel
theorem dX12_priceTop_11 : decode cX12_priceTop 11 = .ok (.iconst 1, 1) := by decide +kernel
theorem dX12_priceTop_12 : decode cX12_priceTop 12 = .ok (.istore 8, 2) := by decide +kernel
theorem dX12_priceTop_14 : decode cX12_priceTop 14 = .ok (.iload 8, 2) := by decide +kernel
theorem dX12_priceTop_16 : decode cX12_priceTop 16 = .ok (.iload 4, 2) := by decide +kernel
theorem dX12_priceTop_18 : decode cX12_priceTop 18 = .ok (.if_icmp .gt 64, 3) := by decide +kernel
theorem dX12_priceTop_21 : decode cX12_priceTop 21 = .ok (.aload 7, 2) := by decide +kernel
theorem dX12_priceTop_23 : decode cX12_priceTop 23 = .ok (.ldc2_w 145, 3) := by decide +kernel
theorem dX12_priceTop_26 : decode cX12_priceTop 26 = .ok (.invokestatic 7, 3) := by decide +kernel
theorem dX12_priceTop_29 : decode cX12_priceTop 29 = .ok (.invokevirtual 13, 3) := by decide +kernel
theorem dX12_priceTop_3 : decode cX12_priceTop 3 = .ok (.astore 6, 2) := by decide +kernel
theorem dX12_priceTop_32 : decode cX12_priceTop 32 = .ok (.astore 7, 2) := by decide +kernel
theorem dX12_priceTop_34 : decode cX12_priceTop 34 = .ok (.aload 6, 2) := by decide +kernel
theorem dX12_priceTop_36 : decode cX12_priceTop 36 = .ok (.ldc2_w 145, 3) := by decide +kernel
theorem dX12_priceTop_39 : decode cX12_priceTop 39 = .ok (.iload 5, 2) := by decide +kernel
theorem dX12_priceTop_41 : decode cX12_priceTop 41 = .ok (.i2l, 1) := by decide +kernel
theorem dX12_priceTop_42 : decode cX12_priceTop 42 = .ok (.ladd, 1) := by decide +kernel
theorem dX12_priceTop_43 : decode cX12_priceTop 43 = .ok (.invokestatic 7, 3) := by decide +kernel
theorem dX12_priceTop_46 : decode cX12_priceTop 46 = .ok (.invokevirtual 13, 3) := by decide +kernel
theorem dX12_priceTop_49 : decode cX12_priceTop 49 = .ok (.aload 7, 2) := by decide +kernel
theorem dX12_priceTop_5 : decode cX12_priceTop 5 = .ok (.lconst 1, 1) := by decide +kernel
theorem dX12_priceTop_51 : decode cX12_priceTop 51 = .ok (.lload_n 0, 1) := by decide +kernel
theorem dX12_priceTop_52 : decode cX12_priceTop 52 = .ok (.iload 8, 2) := by decide +kernel
theorem dX12_priceTop_54 : decode cX12_priceTop 54 = .ok (.iload 4, 2) := by decide +kernel
theorem dX12_priceTop_56 : decode cX12_priceTop 56 = .ok (.if_icmp .ne 7, 3) := by decide +kernel
theorem dX12_priceTop_59 : decode cX12_priceTop 59 = .ok (.lload_n 2, 1) := by decide +kernel
theorem dX12_priceTop_6 : decode cX12_priceTop 6 = .ok (.invokestatic 7, 3) := by decide +kernel
theorem dX12_priceTop_60 : decode cX12_priceTop 60 = .ok (.goto 4, 3) := by decide +kernel
theorem dX12_priceTop_63 : decode cX12_priceTop 63 = .ok (.lconst 0, 1) := by decide +kernel
theorem dX12_priceTop_64 : decode cX12_priceTop 64 = .ok (.ladd, 1) := by decide +kernel
theorem dX12_priceTop_65 : decode cX12_priceTop 65 = .ok (.invokestatic 7, 3) := by decide +kernel
theorem dX12_priceTop_68 : decode cX12_priceTop 68 = .ok (.invokevirtual 13, 3) := by decide +kernel
theorem dX12_priceTop_71 : decode cX12_priceTop 71 = .ok (.invokevirtual 32, 3) := by decide +kernel
theorem dX12_priceTop_74 : decode cX12_priceTop 74 = .ok (.astore 6, 2) := by decide +kernel
theorem dX12_priceTop_76 : decode cX12_priceTop 76 = .ok (.iinc 8 1, 3) := by decide +kernel
theorem dX12_priceTop_79 : decode cX12_priceTop 79 = .ok (.goto (-65), 3) := by decide +kernel
theorem dX12_priceTop_82 : decode cX12_priceTop 82 = .ok (.aload 6, 2) := by decide +kernel
theorem dX12_priceTop_84 : decode cX12_priceTop 84 = .ok (.areturn, 1) := by decide +kernel
theorem dX12_priceTop_9 : decode cX12_priceTop 9 = .ok (.astore 7, 2) := by decide +kernel
theorem dX12_price_0 : decode cX12_price 0 = .ok (.lload_n 1, 1) := by decide +kernel
theorem dX12_price_1 : decode cX12_price 1 = .ok (.lload_n 3, 1) := by decide +kernel
theorem dX12_price_10 : decode cX12_price 10 = .ok (.iload 6, 2) := by decide +kernel
theorem dX12_price_12 : decode cX12_price 12 = .ok (.invokestatic 147, 3) := by decide +kernel
theorem dX12_price_15 : decode cX12_price 15 = .ok (.ifCond .eq 7, 3) := by decide +kernel
theorem dX12_price_18 : decode cX12_price 18 = .ok (.iconst 1, 1) := by decide +kernel
theorem dX12_price_19 : decode cX12_price 19 = .ok (.goto 4, 3) := by decide +kernel
theorem dX12_price_2 : decode cX12_price 2 = .ok (.iload 5, 2) := by decide +kernel
theorem dX12_price_22 : decode cX12_price 22 = .ok (.iconst 0, 1) := by decide +kernel
theorem dX12_price_23 : decode cX12_price 23 = .ok (.istore 7, 2) := by decide +kernel
theorem dX12_price_25 : decode cX12_price 25 = .ok (.iload 7, 2) := by decide +kernel
theorem dX12_price_27 : decode cX12_price 27 = .ok (.ifCond .eq 31, 3) := by decide +kernel
theorem dX12_price_30 : decode cX12_price 30 = .ok (.aload_n 0, 1) := by decide +kernel
theorem dX12_price_31 : decode cX12_price 31 = .ok (.lload_n 1, 1) := by decide +kernel
theorem dX12_price_32 : decode cX12_price 32 = .ok (.lload_n 3, 1) := by decide +kernel
theorem dX12_price_33 : decode cX12_price 33 = .ok (.iload 5, 2) := by decide +kernel
theorem dX12_price_35 : decode cX12_price 35 = .ok (.iload 6, 2) := by decide +kernel
theorem dX12_price_37 : decode cX12_price 37 = .ok (.invokestatic 244, 3) := by decide +kernel
theorem dX12_price_4 : decode cX12_price 4 = .ok (.invokestatic 240, 3) := by decide +kernel
theorem dX12_price_40 : decode cX12_price 40 = .ok (.ldc2_w 145, 3) := by decide +kernel
theorem dX12_price_43 : decode cX12_price 43 = .ok (.iload 6, 2) := by decide +kernel
theorem dX12_price_45 : decode cX12_price 45 = .ok (.i2l, 1) := by decide +kernel
theorem dX12_price_46 : decode cX12_price 46 = .ok (.ladd, 1) := by decide +kernel
theorem dX12_price_47 : decode cX12_price 47 = .ok (.iload 5, 2) := by decide +kernel
theorem dX12_price_49 : decode cX12_price 49 = .ok (.invokestatic 107, 3) := by decide +kernel
theorem dX12_price_52 : decode cX12_price 52 = .ok (.invokevirtual 111, 3) := by decide +kernel
theorem dX12_price_55 : decode cX12_price 55 = .ok (.goto 4, 3) := by decide +kernel
theorem dX12_price_58 : decode cX12_price 58 = .ok (.aconst_null, 1) := by decide +kernel
theorem dX12_price_59 : decode cX12_price 59 = .ok (.astore 8, 2) := by decide +kernel
theorem dX12_price_61 : decode cX12_price 61 = .ok (.aload_n 0, 1) := by decide +kernel
theorem dX12_price_62 : decode cX12_price 62 = .ok (.iload 7, 2) := by decide +kernel
theorem dX12_price_64 : decode cX12_price 64 = .ok (.aload 8, 2) := by decide +kernel
theorem dX12_price_66 : decode cX12_price 66 = .ok (.ifnull 7, 3) := by decide +kernel
theorem dX12_price_69 : decode cX12_price 69 = .ok (.iconst 1, 1) := by decide +kernel
theorem dX12_price_7 : decode cX12_price 7 = .ok (.ifCond .eq 15, 3) := by decide +kernel
theorem dX12_price_70 : decode cX12_price 70 = .ok (.goto 4, 3) := by decide +kernel
theorem dX12_price_73 : decode cX12_price 73 = .ok (.iconst 0, 1) := by decide +kernel
theorem dX12_price_74 : decode cX12_price 74 = .ok (.iconst 1, 1) := by decide +kernel
theorem dX12_price_75 : decode cX12_price 75 = .ok (.invokevirtual 95, 3) := by decide +kernel
theorem dX12_price_78 : decode cX12_price 78 = .ok (.ifCond .eq 12, 3) := by decide +kernel
theorem dX12_price_81 : decode cX12_price 81 = .ok (.aload_n 0, 1) := by decide +kernel
theorem dX12_price_82 : decode cX12_price 82 = .ok (.aload 8, 2) := by decide +kernel
theorem dX12_price_84 : decode cX12_price 84 = .ok (.invokevirtual 115, 3) := by decide +kernel
theorem dX12_price_87 : decode cX12_price 87 = .ok (.goto 4, 3) := by decide +kernel
theorem dX12_price_90 : decode cX12_price 90 = .ok (.lconst 0, 1) := by decide +kernel
theorem dX12_price_91 : decode cX12_price 91 = .ok (.lreturn, 1) := by decide +kernel
set_option maxRecDepth 20000 in
theorem ggX12_bondYield_X12_in : GoodIn wsX12_bondYield wsX12_in := goodIn_r _ [10] (by decide +kernel) (by decide +kernel)
set_option maxRecDepth 20000 in
theorem gX12_bondYield_X12_in : GoodIn wsX12_bondYield (va_wsS RX12 91 yX12_in wsX12_in) := goodIn_app (goodIn_of _ (by decide +kernel)) ggX12_bondYield_X12_in
set_option maxRecDepth 20000 in
theorem ggX12_bondYield_X12_isBond : GoodIn wsX12_bondYield wsX12_isBond := goodIn_r _ [5, 6, 7, 8, 9, 4, 10] (by decide +kernel) (by decide +kernel)
set_option maxRecDepth 20000 in
theorem gX12_bondYield_X12_isBond : GoodIn wsX12_bondYield (va_wsS RX12 240 yX12_isBond wsX12_isBond) := goodIn_app (goodIn_of _ (by decide +kernel)) ggX12_bondYield_X12_isBond
set_option maxRecDepth 20000 in
theorem ggX12_bondYield_X12_isCheap : GoodIn wsX12_bondYield wsX12_isCheap := goodIn_r _ [18, 19, 20, 21, 4, 22, 23, 24, 25, 26, 27, 28, 29, 30, 31, 32, 33, 34, 35, 36, 37, 38, 39, 40, 41, 42, 43, 44, 45, 46, 47, 48, 49, 50, 51, 52, 53, 54, 55, 56, 57, 58, 59, 60, 61, 62, 63, 64, 65, 66, 67, 68, 69, 70, 71, 72, 73, 74, 75, 76, 77, 90, 91] (by decide +kernel) (by decide +kernel)
set_option maxRecDepth 20000 in
theorem gX12_bondYield_X12_isCheap : GoodIn wsX12_bondYield (va_wsS RX12 248 yX12_isCheap wsX12_isCheap) := goodIn_app (goodIn_of _ (by decide +kernel)) ggX12_bondYield_X12_isCheap
set_option maxRecDepth 20000 in
theorem ggX12_bondYield_X12_passes : GoodIn wsX12_bondYield wsX12_passes := goodIn_r _ [14, 15, 78, 79, 80, 81, 82, 83, 84, 85, 86, 87, 88, 89] (by decide +kernel) (by decide +kernel)
set_option maxRecDepth 20000 in
theorem gX12_bondYield_X12_passes : GoodIn wsX12_bondYield (wsV RX12 95 RX12 yX12_passes wsX12_passes) := goodIn_app (goodIn_of _ (by decide +kernel)) ggX12_bondYield_X12_passes
set_option maxRecDepth 20000 in
theorem ggX12_isCheap_X11_less : GoodIn wsX12_isCheap wsX11_less := goodIn_r _ [55, 56, 57, 58, 9, 59, 17, 18, 25, 26, 19, 20, 21, 22, 23, 24, 11, 60, 36, 37, 38, 39, 40, 41, 42, 43, 15, 44, 31, 32, 33, 34, 45, 46, 47, 48, 61, 62] (by decide +kernel) (by decide +kernel)
set_option maxRecDepth 20000 in
theorem gX12_isCheap_X11_less : GoodIn wsX12_isCheap (wsV RX12 167 RX11 yX11_less wsX11_less) := goodIn_app (goodIn_of _ (by decide +kernel)) ggX12_isCheap_X11_less
set_option maxRecDepth 20000 in
theorem ggX12_isCheap_X11_of : GoodIn wsX12_isCheap wsX11_of := goodIn_r _ [10, 11, 12, 13, 14, 15, 16, 17, 18, 9, 19, 20, 21, 22, 23, 24, 25, 26, 61, 62] (by decide +kernel) (by decide +kernel)
set_option maxRecDepth 20000 in
theorem gX12_isCheap_X11_of : GoodIn wsX12_isCheap (va_wsS RX12 7 yX11_of wsX11_of) := goodIn_app (goodIn_of _ (by decide +kernel)) ggX12_isCheap_X11_of
set_option maxRecDepth 20000 in
theorem ggX12_isCheap_X11_times : GoodIn wsX12_isCheap wsX11_times := goodIn_r _ [30, 26, 11, 17, 18, 9, 25, 31, 32, 33, 34, 19, 20, 21, 22, 23, 24, 61, 62] (by decide +kernel) (by decide +kernel)
set_option maxRecDepth 20000 in
theorem gX12_isCheap_X11_times : GoodIn wsX12_isCheap (wsV RX12 13 RX11 yX11_times wsX11_times) := goodIn_app (goodIn_of _ (by decide +kernel)) ggX12_isCheap_X11_times
set_option maxRecDepth 20000 in
theorem ggX12_isCheap_X12_priceTop : GoodIn wsX12_isCheap wsX12_priceTop := goodIn_r _ [5, 6, 1, 7, 8, 9, 10, 11, 12, 13, 14, 15, 16, 17, 18, 19, 20, 21, 22, 23, 24, 25, 26, 27, 28, 29, 30, 31, 32, 33, 34, 35, 36, 37, 38, 39, 40, 41, 42, 43, 44, 45, 46, 47, 48, 61, 62] (by decide +kernel) (by decide +kernel)
set_option maxRecDepth 20000 in
theorem gX12_isCheap_X12_priceTop : GoodIn wsX12_isCheap (va_wsS RX12 244 yX12_priceTop wsX12_priceTop) := goodIn_app (goodIn_of _ (by decide +kernel)) ggX12_isCheap_X12_priceTop
set_option maxRecDepth 20000 in
theorem ggX12_isCheap_X12_raised : GoodIn wsX12_isCheap wsX12_raised := goodIn_r _ [51, 7, 8, 9, 10, 11, 12, 13, 14, 15, 16, 17, 18, 19, 20, 21, 22, 23, 24, 25, 26, 27, 28, 29, 30, 31, 32, 33, 34, 61, 62] (by decide +kernel) (by decide +kernel)
set_option maxRecDepth 20000 in
theorem gX12_isCheap_X12_raised : GoodIn wsX12_isCheap (va_wsS RX12 107 yX12_raised wsX12_raised) := goodIn_app (goodIn_of _ (by decide +kernel)) ggX12_isCheap_X12_raised
set_option maxRecDepth 20000 in
theorem ggX12_priceTop_X11_of : GoodIn wsX12_priceTop wsX11_of := goodIn_r _ [6, 7, 8, 9, 10, 11, 12, 13, 14, 5, 15, 16, 17, 18, 19, 20, 21, 22, 45, 46] (by decide +kernel) (by decide +kernel)
set_option maxRecDepth 20000 in
theorem gX12_priceTop_X11_of : GoodIn wsX12_priceTop (va_wsS RX12 7 yX11_of wsX11_of) := goodIn_app (goodIn_of _ (by decide +kernel)) ggX12_priceTop_X11_of
set_option maxRecDepth 20000 in
theorem ggX12_priceTop_X11_plus : GoodIn wsX12_priceTop wsX11_plus := goodIn_r _ [34, 21, 13, 14, 5, 35, 36, 37, 22, 38, 39, 11, 40, 7, 27, 28, 29, 30, 15, 16, 17, 18, 19, 20, 41, 42, 43, 44, 45, 46] (by decide +kernel) (by decide +kernel)
set_option maxRecDepth 20000 in
theorem gX12_priceTop_X11_plus : GoodIn wsX12_priceTop (wsV RX12 32 RX11 yX11_plus wsX11_plus) := goodIn_app (goodIn_of _ (by decide +kernel)) ggX12_priceTop_X11_plus
set_option maxRecDepth 20000 in
theorem ggX12_priceTop_X11_times : GoodIn wsX12_priceTop wsX11_times := goodIn_r _ [26, 22, 7, 13, 14, 5, 21, 27, 28, 29, 30, 15, 16, 17, 18, 19, 20, 45, 46] (by decide +kernel) (by decide +kernel)
set_option maxRecDepth 20000 in
theorem gX12_priceTop_X11_times : GoodIn wsX12_priceTop (wsV RX12 13 RX11 yX11_times wsX11_times) := goodIn_app (goodIn_of _ (by decide +kernel)) ggX12_priceTop_X11_times
set_option maxRecDepth 20000 in
theorem ggX12_price_X12_isBond : GoodIn wsX12_price wsX12_isBond := goodIn_r _ [5, 6, 7, 8, 9, 4, 10] (by decide +kernel) (by decide +kernel)
set_option maxRecDepth 20000 in
theorem gX12_price_X12_isBond : GoodIn wsX12_price (va_wsS RX12 240 yX12_isBond wsX12_isBond) := goodIn_app (goodIn_of _ (by decide +kernel)) ggX12_price_X12_isBond
set_option maxRecDepth 20000 in
theorem ggX12_price_X12_isRate : GoodIn wsX12_price wsX12_isRate := goodIn_r _ [13, 14, 8, 9, 4, 10] (by decide +kernel) (by decide +kernel)
set_option maxRecDepth 20000 in
theorem gX12_price_X12_isRate : GoodIn wsX12_price (va_wsS RX12 147 yX12_isRate wsX12_isRate) := goodIn_app (goodIn_of _ (by decide +kernel)) ggX12_price_X12_isRate
set_option maxRecDepth 20000 in
theorem ggX12_price_X12_passes : GoodIn wsX12_price wsX12_passes := goodIn_r _ [122, 123, 134, 135, 136, 137, 138, 139, 140, 141, 142, 143, 144, 145] (by decide +kernel) (by decide +kernel)
set_option maxRecDepth 20000 in
theorem gX12_price_X12_passes : GoodIn wsX12_price (wsV RX12 95 RX12 yX12_passes wsX12_passes) := goodIn_app (goodIn_of _ (by decide +kernel)) ggX12_price_X12_passes
set_option maxRecDepth 20000 in
theorem ggX12_price_X12_priceTop : GoodIn wsX12_price wsX12_priceTop := goodIn_r _ [17, 18, 1, 19, 20, 21, 22, 23, 24, 25, 26, 27, 28, 29, 30, 31, 32, 33, 34, 35, 36, 37, 38, 39, 40, 41, 42, 43, 44, 45, 46, 47, 48, 49, 50, 51, 52, 53, 54, 55, 56, 57, 58, 59, 60, 132, 133] (by decide +kernel) (by decide +kernel)
set_option maxRecDepth 20000 in
theorem gX12_price_X12_priceTop : GoodIn wsX12_price (va_wsS RX12 244 yX12_priceTop wsX12_priceTop) := goodIn_app (goodIn_of _ (by decide +kernel)) ggX12_price_X12_priceTop
set_option maxRecDepth 20000 in
theorem ggX12_price_X12_raised : GoodIn wsX12_price wsX12_raised := goodIn_r _ [63, 19, 20, 21, 22, 23, 24, 25, 26, 27, 28, 29, 30, 31, 32, 33, 34, 35, 36, 37, 38, 39, 40, 41, 42, 43, 44, 45, 46, 132, 133] (by decide +kernel) (by decide +kernel)
set_option maxRecDepth 20000 in
theorem gX12_price_X12_raised : GoodIn wsX12_price (va_wsS RX12 107 yX12_raised wsX12_raised) := goodIn_app (goodIn_of _ (by decide +kernel)) ggX12_price_X12_raised
set_option maxRecDepth 20000 in
theorem ggX12_price_X12_rounded : GoodIn wsX12_price wsX12_rounded := goodIn_r _ [67, 68, 69, 70, 71, 72, 21, 73, 37, 74, 75, 76, 77, 29, 30, 38, 31, 32, 33, 34, 35, 36, 23, 78, 79, 80, 81, 82, 20, 22, 24, 25, 26, 27, 28, 83, 84, 85, 86, 87, 88, 89, 90, 91, 57, 58, 59, 60, 54, 55, 56, 43, 44, 45, 46, 92, 93, 94, 95, 96, 97, 98, 40, 41, 42, 99, 100, 101, 102, 103, 104, 105, 106, 107, 108, 109, 110, 111, 112, 47, 48, 49, 50, 51, 52, 53, 113, 114, 115, 116, 4, 117, 19, 118, 134, 135, 136, 137, 138, 139, 140, 141, 142, 143, 144, 145, 132, 133] (by decide +kernel) (by decide +kernel)
set_option maxRecDepth 20000 in
theorem gX12_price_X12_rounded : GoodIn wsX12_price (wsV RX12 111 RX12 yX12_rounded wsX12_rounded) := goodIn_app (goodIn_of _ (by decide +kernel)) ggX12_price_X12_rounded
set_option maxRecDepth 20000 in
theorem ggX12_price_X12_tells : GoodIn wsX12_price wsX12_tells := goodIn_r _ [127, 128, 129, 130, 21, 131, 38, 24, 37, 132, 133] (by decide +kernel) (by decide +kernel)
set_option maxRecDepth 20000 in
theorem gX12_price_X12_tells : GoodIn wsX12_price (wsV RX12 115 RX12 yX12_tells wsX12_tells) := goodIn_app (goodIn_of _ (by decide +kernel)) ggX12_price_X12_tells
