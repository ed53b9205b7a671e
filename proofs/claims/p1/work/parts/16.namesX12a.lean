-- printed rows of X12_in X12_passes X12_isRoundedUp X12_raised X12_rounded X12_tells
theorem dX12_in_0 : decode cX12_in 0 = .ok (.lload_n 0, 1) := by decide +kernel
theorem dX12_in_1 : decode cX12_in 1 = .ok (.lload_n 2, 1) := by decide +kernel
theorem dX12_in_2 : decode cX12_in 2 = .ok (.lcmp, 1) := by decide +kernel
theorem dX12_in_3 : decode cX12_in 3 = .ok (.ifCond .lt 14, 3) := by decide +kernel
theorem dX12_in_6 : decode cX12_in 6 = .ok (.lload_n 0, 1) := by decide +kernel
theorem dX12_in_7 : decode cX12_in 7 = .ok (.lload 4, 2) := by decide +kernel
theorem dX12_in_9 : decode cX12_in 9 = .ok (.lcmp, 1) := by decide +kernel
theorem dX12_in_10 : decode cX12_in 10 = .ok (.ifCond .gt 7, 3) := by decide +kernel
theorem dX12_in_13 : decode cX12_in 13 = .ok (.iconst 1, 1) := by decide +kernel
theorem dX12_in_14 : decode cX12_in 14 = .ok (.goto 4, 3) := by decide +kernel
theorem dX12_in_17 : decode cX12_in 17 = .ok (.iconst 0, 1) := by decide +kernel
theorem dX12_in_18 : decode cX12_in 18 = .ok (.ireturn, 1) := by decide +kernel
theorem dX12_passes_0 : decode cX12_passes 0 = .ok (.aload_n 0, 1) := by decide +kernel
theorem dX12_passes_1 : decode cX12_passes 1 = .ok (.iload_n 1, 1) := by decide +kernel
theorem dX12_passes_2 : decode cX12_passes 2 = .ok (.ifCond .ne 7, 3) := by decide +kernel
theorem dX12_passes_5 : decode cX12_passes 5 = .ok (.iconst 1, 1) := by decide +kernel
theorem dX12_passes_6 : decode cX12_passes 6 = .ok (.goto 20, 3) := by decide +kernel
theorem dX12_passes_9 : decode cX12_passes 9 = .ok (.iload_n 2, 1) := by decide +kernel
theorem dX12_passes_10 : decode cX12_passes 10 = .ok (.ifCond .ne 7, 3) := by decide +kernel
theorem dX12_passes_13 : decode cX12_passes 13 = .ok (.iconst 2, 1) := by decide +kernel
theorem dX12_passes_14 : decode cX12_passes 14 = .ok (.goto 12, 3) := by decide +kernel
theorem dX12_passes_17 : decode cX12_passes 17 = .ok (.iload_n 3, 1) := by decide +kernel
theorem dX12_passes_18 : decode cX12_passes 18 = .ok (.ifCond .ne 7, 3) := by decide +kernel
theorem dX12_passes_21 : decode cX12_passes 21 = .ok (.iconst 3, 1) := by decide +kernel
theorem dX12_passes_22 : decode cX12_passes 22 = .ok (.goto 4, 3) := by decide +kernel
theorem dX12_passes_25 : decode cX12_passes 25 = .ok (.iconst 0, 1) := by decide +kernel
theorem dX12_passes_26 : decode cX12_passes 26 = .ok (.putfield 1, 3) := by decide +kernel
theorem dX12_passes_29 : decode cX12_passes 29 = .ok (.aload_n 0, 1) := by decide +kernel
theorem dX12_passes_30 : decode cX12_passes 30 = .ok (.getfield 1, 3) := by decide +kernel
theorem dX12_passes_33 : decode cX12_passes 33 = .ok (.ifCond .ne 7, 3) := by decide +kernel
theorem dX12_passes_36 : decode cX12_passes 36 = .ok (.iconst 1, 1) := by decide +kernel
theorem dX12_passes_37 : decode cX12_passes 37 = .ok (.goto 4, 3) := by decide +kernel
theorem dX12_passes_40 : decode cX12_passes 40 = .ok (.iconst 0, 1) := by decide +kernel
theorem dX12_passes_41 : decode cX12_passes 41 = .ok (.ireturn, 1) := by decide +kernel
set_option maxRecDepth 20000 in
theorem ggX12_raised_X11_of : GoodIn wsX12_raised wsX11_of := goodIn_r _ [4, 5, 6, 7, 8, 9, 10, 11, 12, 3, 13, 14, 15, 16, 17, 18, 19, 20, 29, 30] (by decide +kernel) (by decide +kernel)
set_option maxRecDepth 20000 in
theorem gX12_raised_X11_of : GoodIn wsX12_raised (va_wsS RX12 7 yX11_of wsX11_of) := goodIn_app (goodIn_of _ (by decide +kernel)) ggX12_raised_X11_of
set_option maxRecDepth 20000 in
theorem ggX12_raised_X11_times : GoodIn wsX12_raised wsX11_times := goodIn_r _ [24, 20, 5, 11, 12, 3, 19, 25, 26, 27, 28, 13, 14, 15, 16, 17, 18, 29, 30] (by decide +kernel) (by decide +kernel)
set_option maxRecDepth 20000 in
theorem gX12_raised_X11_times : GoodIn wsX12_raised (wsV RX12 13 RX11 yX11_times wsX11_times) := goodIn_app (goodIn_of _ (by decide +kernel)) ggX12_raised_X11_times
theorem dX12_raised_0 : decode cX12_raised 0 = .ok (.lconst 1, 1) := by decide +kernel
theorem dX12_raised_1 : decode cX12_raised 1 = .ok (.invokestatic 7, 3) := by decide +kernel
theorem dX12_raised_4 : decode cX12_raised 4 = .ok (.astore_n 3, 1) := by decide +kernel
theorem dX12_raised_5 : decode cX12_raised 5 = .ok (.iconst 0, 1) := by decide +kernel
theorem dX12_raised_6 : decode cX12_raised 6 = .ok (.istore 4, 2) := by decide +kernel
theorem dX12_raised_8 : decode cX12_raised 8 = .ok (.iload 4, 2) := by decide +kernel
theorem dX12_raised_10 : decode cX12_raised 10 = .ok (.iload_n 2, 1) := by decide +kernel
theorem dX12_raised_11 : decode cX12_raised 11 = .ok (.if_icmp .ge 18, 3) := by decide +kernel
theorem dX12_raised_14 : decode cX12_raised 14 = .ok (.aload_n 3, 1) := by decide +kernel
theorem dX12_raised_15 : decode cX12_raised 15 = .ok (.lload_n 0, 1) := by decide +kernel
theorem dX12_raised_16 : decode cX12_raised 16 = .ok (.invokestatic 7, 3) := by decide +kernel
theorem dX12_raised_19 : decode cX12_raised 19 = .ok (.invokevirtual 13, 3) := by decide +kernel
theorem dX12_raised_22 : decode cX12_raised 22 = .ok (.astore_n 3, 1) := by decide +kernel
theorem dX12_raised_23 : decode cX12_raised 23 = .ok (.iinc 4 1, 3) := by decide +kernel
theorem dX12_raised_26 : decode cX12_raised 26 = .ok (.goto (-18), 3) := by decide +kernel
theorem dX12_raised_29 : decode cX12_raised 29 = .ok (.aload_n 3, 1) := by decide +kernel
theorem dX12_raised_30 : decode cX12_raised 30 = .ok (.areturn, 1) := by decide +kernel
theorem dX12_isRoundedUp_0 : decode cX12_isRoundedUp 0 = .ok (.iload_n 0, 1) := by decide +kernel
theorem dX12_isRoundedUp_1 : decode cX12_isRoundedUp 1 = .ok (.ifCond .eq 8, 3) := by decide +kernel
theorem dX12_isRoundedUp_4 : decode cX12_isRoundedUp 4 = .ok (.iload_n 0, 1) := by decide +kernel
theorem dX12_isRoundedUp_5 : decode cX12_isRoundedUp 5 = .ok (.iconst 1, 1) := by decide +kernel
theorem dX12_isRoundedUp_6 : decode cX12_isRoundedUp 6 = .ok (.if_icmp .ne 13, 3) := by decide +kernel
theorem dX12_isRoundedUp_9 : decode cX12_isRoundedUp 9 = .ok (.iload_n 0, 1) := by decide +kernel
theorem dX12_isRoundedUp_10 : decode cX12_isRoundedUp 10 = .ok (.ifCond .ne 7, 3) := by decide +kernel
theorem dX12_isRoundedUp_13 : decode cX12_isRoundedUp 13 = .ok (.iconst 1, 1) := by decide +kernel
theorem dX12_isRoundedUp_14 : decode cX12_isRoundedUp 14 = .ok (.goto 4, 3) := by decide +kernel
theorem dX12_isRoundedUp_17 : decode cX12_isRoundedUp 17 = .ok (.iconst 0, 1) := by decide +kernel
theorem dX12_isRoundedUp_18 : decode cX12_isRoundedUp 18 = .ok (.ireturn, 1) := by decide +kernel
theorem dX12_isRoundedUp_19 : decode cX12_isRoundedUp 19 = .ok (.iload_n 0, 1) := by decide +kernel
theorem dX12_isRoundedUp_20 : decode cX12_isRoundedUp 20 = .ok (.iconst 2, 1) := by decide +kernel
theorem dX12_isRoundedUp_21 : decode cX12_isRoundedUp 21 = .ok (.if_icmp .eq 8, 3) := by decide +kernel
theorem dX12_isRoundedUp_24 : decode cX12_isRoundedUp 24 = .ok (.iload_n 0, 1) := by decide +kernel
theorem dX12_isRoundedUp_25 : decode cX12_isRoundedUp 25 = .ok (.iconst 3, 1) := by decide +kernel
theorem dX12_isRoundedUp_26 : decode cX12_isRoundedUp 26 = .ok (.if_icmp .ne 31, 3) := by decide +kernel
theorem dX12_isRoundedUp_29 : decode cX12_isRoundedUp 29 = .ok (.iload_n 0, 1) := by decide +kernel
theorem dX12_isRoundedUp_30 : decode cX12_isRoundedUp 30 = .ok (.iconst 2, 1) := by decide +kernel
theorem dX12_isRoundedUp_31 : decode cX12_isRoundedUp 31 = .ok (.if_icmp .ne 7, 3) := by decide +kernel
theorem dX12_isRoundedUp_34 : decode cX12_isRoundedUp 34 = .ok (.iconst 1, 1) := by decide +kernel
theorem dX12_isRoundedUp_35 : decode cX12_isRoundedUp 35 = .ok (.goto 4, 3) := by decide +kernel
theorem dX12_isRoundedUp_38 : decode cX12_isRoundedUp 38 = .ok (.iconst 0, 1) := by decide +kernel
theorem dX12_isRoundedUp_39 : decode cX12_isRoundedUp 39 = .ok (.iload_n 1, 1) := by decide +kernel
theorem dX12_isRoundedUp_40 : decode cX12_isRoundedUp 40 = .ok (.ifCond .le 7, 3) := by decide +kernel
theorem dX12_isRoundedUp_43 : decode cX12_isRoundedUp 43 = .ok (.iconst 1, 1) := by decide +kernel
theorem dX12_isRoundedUp_44 : decode cX12_isRoundedUp 44 = .ok (.goto 4, 3) := by decide +kernel
theorem dX12_isRoundedUp_47 : decode cX12_isRoundedUp 47 = .ok (.iconst 0, 1) := by decide +kernel
theorem dX12_isRoundedUp_48 : decode cX12_isRoundedUp 48 = .ok (.if_icmp .ne 7, 3) := by decide +kernel
theorem dX12_isRoundedUp_51 : decode cX12_isRoundedUp 51 = .ok (.iconst 1, 1) := by decide +kernel
theorem dX12_isRoundedUp_52 : decode cX12_isRoundedUp 52 = .ok (.goto 4, 3) := by decide +kernel
theorem dX12_isRoundedUp_55 : decode cX12_isRoundedUp 55 = .ok (.iconst 0, 1) := by decide +kernel
theorem dX12_isRoundedUp_56 : decode cX12_isRoundedUp 56 = .ok (.ireturn, 1) := by decide +kernel
theorem dX12_isRoundedUp_57 : decode cX12_isRoundedUp 57 = .ok (.iload_n 2, 1) := by decide +kernel
theorem dX12_isRoundedUp_58 : decode cX12_isRoundedUp 58 = .ok (.ifCond .gt 22, 3) := by decide +kernel
theorem dX12_isRoundedUp_61 : decode cX12_isRoundedUp 61 = .ok (.iload_n 2, 1) := by decide +kernel
theorem dX12_isRoundedUp_62 : decode cX12_isRoundedUp 62 = .ok (.ifCond .ne 22, 3) := by decide +kernel
theorem dX12_isRoundedUp_65 : decode cX12_isRoundedUp 65 = .ok (.iload_n 0, 1) := by decide +kernel
theorem dX12_isRoundedUp_66 : decode cX12_isRoundedUp 66 = .ok (.iconst 4, 1) := by decide +kernel
theorem dX12_isRoundedUp_67 : decode cX12_isRoundedUp 67 = .ok (.if_icmp .eq 13, 3) := by decide +kernel
theorem dX12_isRoundedUp_70 : decode cX12_isRoundedUp 70 = .ok (.iload_n 0, 1) := by decide +kernel
theorem dX12_isRoundedUp_71 : decode cX12_isRoundedUp 71 = .ok (.bipush 6, 2) := by decide +kernel
theorem dX12_isRoundedUp_73 : decode cX12_isRoundedUp 73 = .ok (.if_icmp .ne 11, 3) := by decide +kernel
theorem dX12_isRoundedUp_76 : decode cX12_isRoundedUp 76 = .ok (.iload_n 3, 1) := by decide +kernel
theorem dX12_isRoundedUp_77 : decode cX12_isRoundedUp 77 = .ok (.ifCond .eq 7, 3) := by decide +kernel
theorem dX12_isRoundedUp_80 : decode cX12_isRoundedUp 80 = .ok (.iconst 1, 1) := by decide +kernel
theorem dX12_isRoundedUp_81 : decode cX12_isRoundedUp 81 = .ok (.goto 4, 3) := by decide +kernel
theorem dX12_isRoundedUp_84 : decode cX12_isRoundedUp 84 = .ok (.iconst 0, 1) := by decide +kernel
theorem dX12_isRoundedUp_85 : decode cX12_isRoundedUp 85 = .ok (.ireturn, 1) := by decide +kernel
set_option maxRecDepth 20000 in
theorem ggX12_rounded_X11_size : GoodIn wsX12_rounded wsX11_size := goodIn_r _ [7, 8, 9, 10, 11, 6, 12, 13, 14, 15, 16, 17, 18, 19, 20, 21, 22, 106, 107] (by decide +kernel) (by decide +kernel)
set_option maxRecDepth 20000 in
theorem gX12_rounded_X11_size : GoodIn wsX12_rounded (wsV RX12 17 RX11 yX11_size wsX11_size) := goodIn_app (goodIn_of _ (by decide +kernel)) ggX12_rounded_X11_size
set_option maxRecDepth 20000 in
theorem ggX12_rounded_X11_divided : GoodIn wsX12_rounded wsX11_divided := goodIn_r _ [26, 15, 13, 8, 27, 28, 6, 29, 22, 30, 31, 32, 33, 34, 14, 16, 17, 18, 19, 20, 21, 35, 4, 5, 7, 9, 10, 11, 12, 36, 37, 38, 39, 40, 41, 42, 43, 44, 45, 46, 47, 48, 49, 50, 51, 52, 53, 54, 55, 56, 57, 58, 59, 60, 61, 62, 63, 64, 65, 66, 67, 68, 69, 70, 71, 72, 73, 74, 106, 107] (by decide +kernel) (by decide +kernel)
set_option maxRecDepth 20000 in
theorem gX12_rounded_X11_divided : GoodIn wsX12_rounded (wsV RX12 21 RX11 yX11_divided wsX11_divided) := goodIn_app (goodIn_of _ (by decide +kernel)) ggX12_rounded_X11_divided
set_option maxRecDepth 20000 in
theorem ggX12_rounded_X11_isNothing : GoodIn wsX12_rounded wsX11_isNothing := goodIn_r _ [78, 8, 106, 107] (by decide +kernel) (by decide +kernel)
set_option maxRecDepth 20000 in
theorem gX12_rounded_X11_isNothing : GoodIn wsX12_rounded (wsV RX12 25 RX11 yX11_isNothing wsX11_isNothing) := goodIn_app (goodIn_of _ (by decide +kernel)) ggX12_rounded_X11_isNothing
set_option maxRecDepth 20000 in
theorem ggX12_rounded_X11_plus : GoodIn wsX12_rounded wsX11_plus := goodIn_r _ [82, 8, 13, 14, 6, 83, 84, 85, 15, 48, 49, 33, 50, 22, 51, 52, 53, 54, 16, 17, 18, 19, 20, 21, 44, 45, 46, 47, 106, 107] (by decide +kernel) (by decide +kernel)
set_option maxRecDepth 20000 in
theorem gX12_rounded_X11_plus : GoodIn wsX12_rounded (wsV RX12 32 RX11 yX11_plus wsX11_plus) := goodIn_app (goodIn_of _ (by decide +kernel)) ggX12_rounded_X11_plus
set_option maxRecDepth 20000 in
theorem ggX12_rounded_X11_comparedSize : GoodIn wsX12_rounded wsX11_comparedSize := goodIn_r _ [47, 15, 48, 49, 33, 50, 51, 52, 53, 6, 54, 106, 107] (by decide +kernel) (by decide +kernel)
set_option maxRecDepth 20000 in
theorem gX12_rounded_X11_comparedSize : GoodIn wsX12_rounded (wsV RX12 35 RX11 yX11_comparedSize wsX11_comparedSize) := goodIn_app (goodIn_of _ (by decide +kernel)) ggX12_rounded_X11_comparedSize
set_option maxRecDepth 20000 in
theorem ggX12_rounded_X11_rest : GoodIn wsX12_rounded wsX11_rest := goodIn_r _ [43, 15, 30, 106, 107] (by decide +kernel) (by decide +kernel)
set_option maxRecDepth 20000 in
theorem gX12_rounded_X11_rest : GoodIn wsX12_rounded (wsV RX12 44 RX11 yX11_rest wsX11_rest) := goodIn_app (goodIn_of _ (by decide +kernel)) ggX12_rounded_X11_rest
set_option maxRecDepth 20000 in
theorem ggX12_rounded_X12_isRoundedUp : GoodIn wsX12_rounded wsX12_isRoundedUp := goodIn_r _ [91] (by decide +kernel) (by decide +kernel)
set_option maxRecDepth 20000 in
theorem gX12_rounded_X12_isRoundedUp : GoodIn wsX12_rounded (va_wsS RX12 48 yX12_isRoundedUp wsX12_isRoundedUp) := goodIn_app (goodIn_of _ (by decide +kernel)) ggX12_rounded_X12_isRoundedUp
set_option maxRecDepth 20000 in
theorem ggX12_rounded_X11_of : GoodIn wsX12_rounded wsX11_of := goodIn_r _ [29, 22, 30, 31, 32, 33, 34, 13, 14, 6, 16, 17, 18, 19, 20, 21, 8, 15, 106, 107] (by decide +kernel) (by decide +kernel)
set_option maxRecDepth 20000 in
theorem gX12_rounded_X11_of : GoodIn wsX12_rounded (va_wsS RX12 7 yX11_of wsX11_of) := goodIn_app (goodIn_of _ (by decide +kernel)) ggX12_rounded_X11_of
set_option maxRecDepth 20000 in
theorem ggX12_rounded_X11_negated : GoodIn wsX12_rounded wsX11_negated := goodIn_r _ [12, 13, 14, 6, 8, 15, 16, 17, 18, 19, 20, 21, 22, 106, 107] (by decide +kernel) (by decide +kernel)
set_option maxRecDepth 20000 in
theorem gX12_rounded_X11_negated : GoodIn wsX12_rounded (wsV RX12 52 RX11 yX11_negated wsX11_negated) := goodIn_app (goodIn_of _ (by decide +kernel)) ggX12_rounded_X11_negated
theorem dX12_rounded_0 : decode cX12_rounded 0 = .ok (.aload_n 1, 1) := by decide +kernel
theorem dX12_rounded_1 : decode cX12_rounded 1 = .ok (.invokevirtual 17, 3) := by decide +kernel
theorem dX12_rounded_4 : decode cX12_rounded 4 = .ok (.aload_n 2, 1) := by decide +kernel
theorem dX12_rounded_5 : decode cX12_rounded 5 = .ok (.invokevirtual 21, 3) := by decide +kernel
theorem dX12_rounded_8 : decode cX12_rounded 8 = .ok (.astore_n 3, 1) := by decide +kernel
theorem dX12_rounded_9 : decode cX12_rounded 9 = .ok (.aload_n 3, 1) := by decide +kernel
theorem dX12_rounded_10 : decode cX12_rounded 10 = .ok (.iconst 0, 1) := by decide +kernel
theorem dX12_rounded_11 : decode cX12_rounded 11 = .ok (.aaload, 1) := by decide +kernel
theorem dX12_rounded_12 : decode cX12_rounded 12 = .ok (.astore 4, 2) := by decide +kernel
theorem dX12_rounded_14 : decode cX12_rounded 14 = .ok (.aload_n 3, 1) := by decide +kernel
theorem dX12_rounded_15 : decode cX12_rounded 15 = .ok (.iconst 1, 1) := by decide +kernel
theorem dX12_rounded_16 : decode cX12_rounded 16 = .ok (.aaload, 1) := by decide +kernel
theorem dX12_rounded_17 : decode cX12_rounded 17 = .ok (.invokevirtual 25, 3) := by decide +kernel
theorem dX12_rounded_20 : decode cX12_rounded 20 = .ok (.ifCond .ne 83, 3) := by decide +kernel
theorem dX12_rounded_23 : decode cX12_rounded 23 = .ok (.aload_n 0, 1) := by decide +kernel
theorem dX12_rounded_24 : decode cX12_rounded 24 = .ok (.getfield 29, 3) := by decide +kernel
theorem dX12_rounded_27 : decode cX12_rounded 27 = .ok (.bipush 7, 2) := by decide +kernel
theorem dX12_rounded_29 : decode cX12_rounded 29 = .ok (.if_icmp .ne 5, 3) := by decide +kernel
theorem dX12_rounded_32 : decode cX12_rounded 32 = .ok (.aconst_null, 1) := by decide +kernel
theorem dX12_rounded_33 : decode cX12_rounded 33 = .ok (.areturn, 1) := by decide +kernel
theorem dX12_rounded_34 : decode cX12_rounded 34 = .ok (.aload_n 3, 1) := by decide +kernel
theorem dX12_rounded_35 : decode cX12_rounded 35 = .ok (.iconst 1, 1) := by decide +kernel
theorem dX12_rounded_36 : decode cX12_rounded 36 = .ok (.aaload, 1) := by decide +kernel
theorem dX12_rounded_37 : decode cX12_rounded 37 = .ok (.aload_n 3, 1) := by decide +kernel
theorem dX12_rounded_38 : decode cX12_rounded 38 = .ok (.iconst 1, 1) := by decide +kernel
theorem dX12_rounded_39 : decode cX12_rounded 39 = .ok (.aaload, 1) := by decide +kernel
theorem dX12_rounded_40 : decode cX12_rounded 40 = .ok (.invokevirtual 32, 3) := by decide +kernel
theorem dX12_rounded_43 : decode cX12_rounded 43 = .ok (.aload_n 2, 1) := by decide +kernel
theorem dX12_rounded_44 : decode cX12_rounded 44 = .ok (.invokevirtual 35, 3) := by decide +kernel
theorem dX12_rounded_47 : decode cX12_rounded 47 = .ok (.istore 5, 2) := by decide +kernel
theorem dX12_rounded_49 : decode cX12_rounded 49 = .ok (.aload_n 0, 1) := by decide +kernel
theorem dX12_rounded_50 : decode cX12_rounded 50 = .ok (.getfield 29, 3) := by decide +kernel
theorem dX12_rounded_53 : decode cX12_rounded 53 = .ok (.aload_n 1, 1) := by decide +kernel
theorem dX12_rounded_54 : decode cX12_rounded 54 = .ok (.getfield 39, 3) := by decide +kernel
theorem dX12_rounded_57 : decode cX12_rounded 57 = .ok (.iload 5, 2) := by decide +kernel
theorem dX12_rounded_59 : decode cX12_rounded 59 = .ok (.aload 4, 2) := by decide +kernel
theorem dX12_rounded_61 : decode cX12_rounded 61 = .ok (.ldc2_w 42, 3) := by decide +kernel
theorem dX12_rounded_64 : decode cX12_rounded 64 = .ok (.invokevirtual 44, 3) := by decide +kernel
theorem dX12_rounded_67 : decode cX12_rounded 67 = .ok (.lconst 1, 1) := by decide +kernel
theorem dX12_rounded_68 : decode cX12_rounded 68 = .ok (.lcmp, 1) := by decide +kernel
theorem dX12_rounded_69 : decode cX12_rounded 69 = .ok (.ifCond .ne 7, 3) := by decide +kernel
theorem dX12_rounded_72 : decode cX12_rounded 72 = .ok (.iconst 1, 1) := by decide +kernel
theorem dX12_rounded_73 : decode cX12_rounded 73 = .ok (.goto 4, 3) := by decide +kernel
theorem dX12_rounded_76 : decode cX12_rounded 76 = .ok (.iconst 0, 1) := by decide +kernel
theorem dX12_rounded_77 : decode cX12_rounded 77 = .ok (.invokestatic 48, 3) := by decide +kernel
theorem dX12_rounded_80 : decode cX12_rounded 80 = .ok (.istore 6, 2) := by decide +kernel
theorem dX12_rounded_82 : decode cX12_rounded 82 = .ok (.iload 6, 2) := by decide +kernel
theorem dX12_rounded_84 : decode cX12_rounded 84 = .ok (.ifCond .eq 15, 3) := by decide +kernel
theorem dX12_rounded_87 : decode cX12_rounded 87 = .ok (.aload 4, 2) := by decide +kernel
theorem dX12_rounded_89 : decode cX12_rounded 89 = .ok (.lconst 1, 1) := by decide +kernel
theorem dX12_rounded_90 : decode cX12_rounded 90 = .ok (.invokestatic 7, 3) := by decide +kernel
theorem dX12_rounded_93 : decode cX12_rounded 93 = .ok (.invokevirtual 32, 3) := by decide +kernel
theorem dX12_rounded_96 : decode cX12_rounded 96 = .ok (.goto 5, 3) := by decide +kernel
theorem dX12_rounded_99 : decode cX12_rounded 99 = .ok (.aload 4, 2) := by decide +kernel
theorem dX12_rounded_101 : decode cX12_rounded 101 = .ok (.astore 4, 2) := by decide +kernel
theorem dX12_rounded_103 : decode cX12_rounded 103 = .ok (.aload_n 1, 1) := by decide +kernel
theorem dX12_rounded_104 : decode cX12_rounded 104 = .ok (.getfield 39, 3) := by decide +kernel
theorem dX12_rounded_107 : decode cX12_rounded 107 = .ok (.ifCond .ge 11, 3) := by decide +kernel
theorem dX12_rounded_110 : decode cX12_rounded 110 = .ok (.aload 4, 2) := by decide +kernel
theorem dX12_rounded_112 : decode cX12_rounded 112 = .ok (.invokevirtual 52, 3) := by decide +kernel
theorem dX12_rounded_115 : decode cX12_rounded 115 = .ok (.goto 5, 3) := by decide +kernel
theorem dX12_rounded_118 : decode cX12_rounded 118 = .ok (.aload 4, 2) := by decide +kernel
theorem dX12_rounded_120 : decode cX12_rounded 120 = .ok (.areturn, 1) := by decide +kernel
set_option maxRecDepth 20000 in
theorem ggX12_tells_X11_number : GoodIn wsX12_tells wsX11_number := goodIn_r _ [5, 6, 7, 8, 9, 10] (by decide +kernel) (by decide +kernel)
set_option maxRecDepth 20000 in
theorem gX12_tells_X11_number : GoodIn wsX12_tells (wsV RX12 55 RX11 yX11_number wsX11_number) := goodIn_app (goodIn_of _ (by decide +kernel)) ggX12_tells_X11_number
theorem dX12_tells_0 : decode cX12_tells 0 = .ok (.aload_n 1, 1) := by decide +kernel
theorem dX12_tells_1 : decode cX12_tells 1 = .ok (.ifnonnull 7, 3) := by decide +kernel
theorem dX12_tells_4 : decode cX12_tells 4 = .ok (.lconst 0, 1) := by decide +kernel
theorem dX12_tells_5 : decode cX12_tells 5 = .ok (.goto 7, 3) := by decide +kernel
theorem dX12_tells_8 : decode cX12_tells 8 = .ok (.aload_n 1, 1) := by decide +kernel
theorem dX12_tells_9 : decode cX12_tells 9 = .ok (.invokevirtual 55, 3) := by decide +kernel
theorem dX12_tells_12 : decode cX12_tells 12 = .ok (.lreturn, 1) := by decide +kernel
