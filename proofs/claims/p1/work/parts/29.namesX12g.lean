-- printed rows that the walks use
theorem dX12_instalment_0 : decode cX12_instalment 0 = .ok (.iload_n 3, 1) := by decide +kernel
theorem dX12_instalment_1 : decode cX12_instalment 1 = .ok (.ifCond .ne 18, 3) := by decide +kernel
theorem dX12_instalment_11 : decode cX12_instalment 11 = .ok (.i2l, 1) := by decide +kernel
theorem dX12_instalment_12 : decode cX12_instalment 12 = .ok (.invokestatic 7, 3) := by decide +kernel
theorem dX12_instalment_15 : decode cX12_instalment 15 = .ok (.invokevirtual 111, 3) := by decide +kernel
theorem dX12_instalment_18 : decode cX12_instalment 18 = .ok (.areturn, 1) := by decide +kernel
theorem dX12_instalment_19 : decode cX12_instalment 19 = .ok (.ldc2_w 145, 3) := by decide +kernel
theorem dX12_instalment_22 : decode cX12_instalment 22 = .ok (.iload_n 3, 1) := by decide +kernel
theorem dX12_instalment_23 : decode cX12_instalment 23 = .ok (.i2l, 1) := by decide +kernel
theorem dX12_instalment_24 : decode cX12_instalment 24 = .ok (.ladd, 1) := by decide +kernel
theorem dX12_instalment_25 : decode cX12_instalment 25 = .ok (.iload 4, 2) := by decide +kernel
theorem dX12_instalment_27 : decode cX12_instalment 27 = .ok (.invokestatic 107, 3) := by decide +kernel
theorem dX12_instalment_30 : decode cX12_instalment 30 = .ok (.astore 5, 2) := by decide +kernel
theorem dX12_instalment_32 : decode cX12_instalment 32 = .ok (.aload_n 0, 1) := by decide +kernel
theorem dX12_instalment_33 : decode cX12_instalment 33 = .ok (.lload_n 1, 1) := by decide +kernel
theorem dX12_instalment_34 : decode cX12_instalment 34 = .ok (.invokestatic 7, 3) := by decide +kernel
theorem dX12_instalment_37 : decode cX12_instalment 37 = .ok (.iload_n 3, 1) := by decide +kernel
theorem dX12_instalment_38 : decode cX12_instalment 38 = .ok (.i2l, 1) := by decide +kernel
theorem dX12_instalment_39 : decode cX12_instalment 39 = .ok (.invokestatic 7, 3) := by decide +kernel
theorem dX12_instalment_4 : decode cX12_instalment 4 = .ok (.aload_n 0, 1) := by decide +kernel
theorem dX12_instalment_42 : decode cX12_instalment 42 = .ok (.invokevirtual 13, 3) := by decide +kernel
theorem dX12_instalment_45 : decode cX12_instalment 45 = .ok (.aload 5, 2) := by decide +kernel
theorem dX12_instalment_47 : decode cX12_instalment 47 = .ok (.invokevirtual 13, 3) := by decide +kernel
theorem dX12_instalment_5 : decode cX12_instalment 5 = .ok (.lload_n 1, 1) := by decide +kernel
theorem dX12_instalment_50 : decode cX12_instalment 50 = .ok (.aload 5, 2) := by decide +kernel
theorem dX12_instalment_52 : decode cX12_instalment 52 = .ok (.ldc2_w 145, 3) := by decide +kernel
theorem dX12_instalment_55 : decode cX12_instalment 55 = .ok (.iload 4, 2) := by decide +kernel
theorem dX12_instalment_57 : decode cX12_instalment 57 = .ok (.invokestatic 107, 3) := by decide +kernel
theorem dX12_instalment_6 : decode cX12_instalment 6 = .ok (.invokestatic 7, 3) := by decide +kernel
theorem dX12_instalment_60 : decode cX12_instalment 60 = .ok (.invokevirtual 167, 3) := by decide +kernel
theorem dX12_instalment_63 : decode cX12_instalment 63 = .ok (.ldc2_w 145, 3) := by decide +kernel
theorem dX12_instalment_66 : decode cX12_instalment 66 = .ok (.invokestatic 7, 3) := by decide +kernel
theorem dX12_instalment_69 : decode cX12_instalment 69 = .ok (.invokevirtual 13, 3) := by decide +kernel
theorem dX12_instalment_72 : decode cX12_instalment 72 = .ok (.invokevirtual 111, 3) := by decide +kernel
theorem dX12_instalment_75 : decode cX12_instalment 75 = .ok (.areturn, 1) := by decide +kernel
theorem dX12_instalment_9 : decode cX12_instalment 9 = .ok (.iload 4, 2) := by decide +kernel
theorem dX12_lend_0 : decode cX12_lend 0 = .ok (.lload_n 1, 1) := by decide +kernel
theorem dX12_lend_1 : decode cX12_lend 1 = .ok (.lconst 1, 1) := by decide +kernel
theorem dX12_lend_11 : decode cX12_lend 11 = .ok (.iload_n 3, 1) := by decide +kernel
theorem dX12_lend_12 : decode cX12_lend 12 = .ok (.invokestatic 147, 3) := by decide +kernel
theorem dX12_lend_15 : decode cX12_lend 15 = .ok (.ifCond .eq 20, 3) := by decide +kernel
theorem dX12_lend_18 : decode cX12_lend 18 = .ok (.iload 4, 2) := by decide +kernel
theorem dX12_lend_2 : decode cX12_lend 2 = .ok (.ldc2_w 121, 3) := by decide +kernel
theorem dX12_lend_20 : decode cX12_lend 20 = .ok (.i2l, 1) := by decide +kernel
theorem dX12_lend_21 : decode cX12_lend 21 = .ok (.lconst 1, 1) := by decide +kernel
theorem dX12_lend_22 : decode cX12_lend 22 = .ok (.ldc2_w 208, 3) := by decide +kernel
theorem dX12_lend_25 : decode cX12_lend 25 = .ok (.invokestatic 91, 3) := by decide +kernel
theorem dX12_lend_28 : decode cX12_lend 28 = .ok (.ifCond .eq 7, 3) := by decide +kernel
theorem dX12_lend_35 : decode cX12_lend 35 = .ok (.iconst 0, 1) := by decide +kernel
theorem dX12_lend_36 : decode cX12_lend 36 = .ok (.istore 5, 2) := by decide +kernel
theorem dX12_lend_38 : decode cX12_lend 38 = .ok (.iload 5, 2) := by decide +kernel
theorem dX12_lend_40 : decode cX12_lend 40 = .ok (.ifCond .eq 17, 3) := by decide +kernel
theorem dX12_lend_5 : decode cX12_lend 5 = .ok (.invokestatic 91, 3) := by decide +kernel
theorem dX12_lend_57 : decode cX12_lend 57 = .ok (.aconst_null, 1) := by decide +kernel
theorem dX12_lend_58 : decode cX12_lend 58 = .ok (.astore 6, 2) := by decide +kernel
theorem dX12_lend_60 : decode cX12_lend 60 = .ok (.iload 5, 2) := by decide +kernel
theorem dX12_lend_62 : decode cX12_lend 62 = .ok (.ifCond .eq 12, 3) := by decide +kernel
theorem dX12_lend_74 : decode cX12_lend 74 = .ok (.aconst_null, 1) := by decide +kernel
theorem dX12_lend_75 : decode cX12_lend 75 = .ok (.astore 7, 2) := by decide +kernel
theorem dX12_lend_77 : decode cX12_lend 77 = .ok (.aload_n 0, 1) := by decide +kernel
theorem dX12_lend_78 : decode cX12_lend 78 = .ok (.iload 5, 2) := by decide +kernel
theorem dX12_lend_8 : decode cX12_lend 8 = .ok (.ifCond .eq 27, 3) := by decide +kernel
theorem dX12_lend_80 : decode cX12_lend 80 = .ok (.aload 7, 2) := by decide +kernel
theorem dX12_lend_82 : decode cX12_lend 82 = .ok (.ifnull 7, 3) := by decide +kernel
theorem dX12_lend_89 : decode cX12_lend 89 = .ok (.iconst 0, 1) := by decide +kernel
theorem dX12_lend_90 : decode cX12_lend 90 = .ok (.iconst 1, 1) := by decide +kernel
theorem dX12_lend_91 : decode cX12_lend 91 = .ok (.invokevirtual 95, 3) := by decide +kernel
theorem dX12_lend_94 : decode cX12_lend 94 = .ok (.ifCond .ne 5, 3) := by decide +kernel
theorem dX12_lend_97 : decode cX12_lend 97 = .ok (.lconst 0, 1) := by decide +kernel
theorem dX12_lend_98 : decode cX12_lend 98 = .ok (.lreturn, 1) := by decide +kernel
set_option maxRecDepth 20000 in
theorem ggX12_instalment_X11_less : GoodIn wsX12_instalment wsX11_less := goodIn_r _ [106, 33, 34, 35, 4, 36, 12, 13, 20, 21, 14, 15, 16, 17, 18, 19, 6, 107, 87, 88, 89, 90, 91, 92, 55, 56, 10, 57, 58, 59, 60, 61, 51, 52, 53, 54, 108, 109] (by decide +kernel) (by decide +kernel)
set_option maxRecDepth 20000 in
theorem gX12_instalment_X11_less : GoodIn wsX12_instalment (wsV RX12 167 RX11 yX11_less wsX11_less) := goodIn_app (goodIn_of _ (by decide +kernel)) ggX12_instalment_X11_less
set_option maxRecDepth 20000 in
theorem ggX12_instalment_X11_of : GoodIn wsX12_instalment wsX11_of := goodIn_r _ [5, 6, 7, 8, 9, 10, 11, 12, 13, 4, 14, 15, 16, 17, 18, 19, 20, 21, 108, 109] (by decide +kernel) (by decide +kernel)
set_option maxRecDepth 20000 in
theorem gX12_instalment_X11_of : GoodIn wsX12_instalment (va_wsS RX12 7 yX11_of wsX11_of) := goodIn_app (goodIn_of _ (by decide +kernel)) ggX12_instalment_X11_of
set_option maxRecDepth 20000 in
theorem ggX12_instalment_X11_times : GoodIn wsX12_instalment wsX11_times := goodIn_r _ [71, 21, 6, 12, 13, 4, 20, 58, 59, 60, 61, 14, 15, 16, 17, 18, 19, 108, 109] (by decide +kernel) (by decide +kernel)
set_option maxRecDepth 20000 in
theorem gX12_instalment_X11_times : GoodIn wsX12_instalment (wsV RX12 13 RX11 yX11_times wsX11_times) := goodIn_app (goodIn_of _ (by decide +kernel)) ggX12_instalment_X11_times
set_option maxRecDepth 20000 in
theorem ggX12_instalment_X12_raised : GoodIn wsX12_instalment wsX12_raised := goodIn_r _ [101, 2, 3, 4, 5, 6, 7, 8, 9, 10, 11, 12, 13, 14, 15, 16, 17, 18, 19, 20, 21, 102, 69, 70, 71, 58, 59, 60, 61, 108, 109] (by decide +kernel) (by decide +kernel)
set_option maxRecDepth 20000 in
theorem gX12_instalment_X12_raised : GoodIn wsX12_instalment (va_wsS RX12 107 yX12_raised wsX12_raised) := goodIn_app (goodIn_of _ (by decide +kernel)) ggX12_instalment_X12_raised
set_option maxRecDepth 20000 in
theorem ggX12_instalment_X12_rounded : GoodIn wsX12_instalment wsX12_rounded := goodIn_r _ [26, 27, 28, 29, 30, 31, 4, 32, 20, 33, 34, 35, 36, 12, 13, 21, 14, 15, 16, 17, 18, 19, 6, 37, 38, 39, 40, 41, 3, 5, 7, 8, 9, 10, 11, 42, 43, 44, 45, 46, 47, 48, 49, 50, 51, 52, 53, 54, 55, 56, 57, 58, 59, 60, 61, 62, 63, 64, 65, 66, 67, 68, 69, 70, 71, 72, 73, 74, 75, 76, 77, 78, 79, 80, 81, 82, 83, 84, 85, 86, 87, 88, 89, 90, 91, 92, 93, 94, 95, 96, 25, 97, 2, 98, 110, 111, 112, 113, 114, 115, 116, 117, 118, 119, 120, 121, 108, 109] (by decide +kernel) (by decide +kernel)
set_option maxRecDepth 20000 in
theorem gX12_instalment_X12_rounded : GoodIn wsX12_instalment (wsV RX12 111 RX12 yX12_rounded wsX12_rounded) := goodIn_app (goodIn_of _ (by decide +kernel)) ggX12_instalment_X12_rounded
set_option maxRecDepth 20000 in
theorem ggX12_lend_X12_in : GoodIn wsX12_lend wsX12_in := goodIn_r _ [12] (by decide +kernel) (by decide +kernel)
set_option maxRecDepth 20000 in
theorem gX12_lend_X12_in : GoodIn wsX12_lend (va_wsS RX12 91 yX12_in wsX12_in) := goodIn_app (goodIn_of _ (by decide +kernel)) ggX12_lend_X12_in
set_option maxRecDepth 20000 in
theorem ggX12_lend_X12_isRate : GoodIn wsX12_lend wsX12_isRate := goodIn_r _ [15, 16, 9, 10, 11, 12] (by decide +kernel) (by decide +kernel)
set_option maxRecDepth 20000 in
theorem gX12_lend_X12_isRate : GoodIn wsX12_lend (va_wsS RX12 147 yX12_isRate wsX12_isRate) := goodIn_app (goodIn_of _ (by decide +kernel)) ggX12_lend_X12_isRate
set_option maxRecDepth 20000 in
theorem ggX12_lend_X12_passes : GoodIn wsX12_lend wsX12_passes := goodIn_r _ [219, 220, 243, 244, 245, 246, 247, 248, 249, 250, 251, 252, 253, 254] (by decide +kernel) (by decide +kernel)
set_option maxRecDepth 20000 in
theorem gX12_lend_X12_passes : GoodIn wsX12_lend (wsV RX12 95 RX12 yX12_passes wsX12_passes) := goodIn_app (goodIn_of _ (by decide +kernel)) ggX12_lend_X12_passes
