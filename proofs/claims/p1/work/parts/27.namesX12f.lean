-- printed rows that the walks use
theorem dX12_carried_0 : decode cX12_carried 0 = .ok (.getstatic 141, 3) := by decide +kernel
theorem dX12_carried_10 : decode cX12_carried 10 = .ok (.istore 4, 2) := by decide +kernel
theorem dX12_carried_12 : decode cX12_carried 12 = .ok (.iload 4, 2) := by decide +kernel
theorem dX12_carried_14 : decode cX12_carried 14 = .ok (.bipush 41, 2) := by decide +kernel
theorem dX12_carried_16 : decode cX12_carried 16 = .ok (.if_icmp .ge 51, 3) := by decide +kernel
theorem dX12_carried_19 : decode cX12_carried 19 = .ok (.aload_n 2, 1) := by decide +kernel
theorem dX12_carried_20 : decode cX12_carried 20 = .ok (.ldc2_w 145, 3) := by decide +kernel
theorem dX12_carried_23 : decode cX12_carried 23 = .ok (.iload_n 1, 1) := by decide +kernel
theorem dX12_carried_24 : decode cX12_carried 24 = .ok (.i2l, 1) := by decide +kernel
theorem dX12_carried_25 : decode cX12_carried 25 = .ok (.ladd, 1) := by decide +kernel
theorem dX12_carried_26 : decode cX12_carried 26 = .ok (.invokestatic 7, 3) := by decide +kernel
theorem dX12_carried_29 : decode cX12_carried 29 = .ok (.invokevirtual 13, 3) := by decide +kernel
theorem dX12_carried_3 : decode cX12_carried 3 = .ok (.astore_n 2, 1) := by decide +kernel
theorem dX12_carried_32 : decode cX12_carried 32 = .ok (.aload_n 3, 1) := by decide +kernel
theorem dX12_carried_33 : decode cX12_carried 33 = .ok (.aload_n 0, 1) := by decide +kernel
theorem dX12_carried_34 : decode cX12_carried 34 = .ok (.getfield 65, 3) := by decide +kernel
theorem dX12_carried_37 : decode cX12_carried 37 = .ok (.iload 4, 2) := by decide +kernel
theorem dX12_carried_39 : decode cX12_carried 39 = .ok (.laload, 1) := by decide +kernel
theorem dX12_carried_4 : decode cX12_carried 4 = .ok (.lconst 1, 1) := by decide +kernel
theorem dX12_carried_40 : decode cX12_carried 40 = .ok (.invokestatic 7, 3) := by decide +kernel
theorem dX12_carried_43 : decode cX12_carried 43 = .ok (.invokevirtual 13, 3) := by decide +kernel
theorem dX12_carried_46 : decode cX12_carried 46 = .ok (.invokevirtual 32, 3) := by decide +kernel
theorem dX12_carried_49 : decode cX12_carried 49 = .ok (.astore_n 2, 1) := by decide +kernel
theorem dX12_carried_5 : decode cX12_carried 5 = .ok (.invokestatic 7, 3) := by decide +kernel
theorem dX12_carried_50 : decode cX12_carried 50 = .ok (.aload_n 3, 1) := by decide +kernel
theorem dX12_carried_51 : decode cX12_carried 51 = .ok (.ldc2_w 145, 3) := by decide +kernel
theorem dX12_carried_54 : decode cX12_carried 54 = .ok (.invokestatic 7, 3) := by decide +kernel
theorem dX12_carried_57 : decode cX12_carried 57 = .ok (.invokevirtual 13, 3) := by decide +kernel
theorem dX12_carried_60 : decode cX12_carried 60 = .ok (.astore_n 3, 1) := by decide +kernel
theorem dX12_carried_61 : decode cX12_carried 61 = .ok (.iinc 4 1, 3) := by decide +kernel
theorem dX12_carried_64 : decode cX12_carried 64 = .ok (.goto (-52), 3) := by decide +kernel
theorem dX12_carried_67 : decode cX12_carried 67 = .ok (.aload_n 2, 1) := by decide +kernel
theorem dX12_carried_68 : decode cX12_carried 68 = .ok (.areturn, 1) := by decide +kernel
theorem dX12_carried_8 : decode cX12_carried 8 = .ok (.astore_n 3, 1) := by decide +kernel
theorem dX12_carried_9 : decode cX12_carried 9 = .ok (.iconst 0, 1) := by decide +kernel
theorem dX12_signAt_0 : decode cX12_signAt 0 = .ok (.aload_n 0, 1) := by decide +kernel
theorem dX12_signAt_1 : decode cX12_signAt 1 = .ok (.iload_n 1, 1) := by decide +kernel
theorem dX12_signAt_10 : decode cX12_signAt 10 = .ok (.ifCond .eq 14, 3) := by decide +kernel
theorem dX12_signAt_13 : decode cX12_signAt 13 = .ok (.aload_n 0, 1) := by decide +kernel
theorem dX12_signAt_14 : decode cX12_signAt 14 = .ok (.iload_n 1, 1) := by decide +kernel
theorem dX12_signAt_15 : decode cX12_signAt 15 = .ok (.invokevirtual 151, 3) := by decide +kernel
theorem dX12_signAt_18 : decode cX12_signAt 18 = .ok (.getfield 39, 3) := by decide +kernel
theorem dX12_signAt_2 : decode cX12_signAt 2 = .ok (.invokestatic 147, 3) := by decide +kernel
theorem dX12_signAt_21 : decode cX12_signAt 21 = .ok (.goto 4, 3) := by decide +kernel
theorem dX12_signAt_24 : decode cX12_signAt 24 = .ok (.iconst 0, 1) := by decide +kernel
theorem dX12_signAt_25 : decode cX12_signAt 25 = .ok (.ireturn, 1) := by decide +kernel
theorem dX12_signAt_5 : decode cX12_signAt 5 = .ok (.iconst 1, 1) := by decide +kernel
theorem dX12_signAt_6 : decode cX12_signAt 6 = .ok (.iconst 1, 1) := by decide +kernel
theorem dX12_signAt_7 : decode cX12_signAt 7 = .ok (.invokevirtual 95, 3) := by decide +kernel
theorem dX12_worth_0 : decode cX12_worth 0 = .ok (.iload_n 1, 1) := by decide +kernel
theorem dX12_worth_1 : decode cX12_worth 1 = .ok (.i2l, 1) := by decide +kernel
theorem dX12_worth_12 : decode cX12_worth 12 = .ok (.iload_n 2, 1) := by decide +kernel
theorem dX12_worth_13 : decode cX12_worth 13 = .ok (.invokestatic 147, 3) := by decide +kernel
theorem dX12_worth_16 : decode cX12_worth 16 = .ok (.ifCond .eq 7, 3) := by decide +kernel
theorem dX12_worth_19 : decode cX12_worth 19 = .ok (.iconst 1, 1) := by decide +kernel
theorem dX12_worth_2 : decode cX12_worth 2 = .ok (.lconst 0, 1) := by decide +kernel
theorem dX12_worth_20 : decode cX12_worth 20 = .ok (.goto 4, 3) := by decide +kernel
theorem dX12_worth_23 : decode cX12_worth 23 = .ok (.iconst 0, 1) := by decide +kernel
theorem dX12_worth_24 : decode cX12_worth 24 = .ok (.istore_n 3, 1) := by decide +kernel
theorem dX12_worth_25 : decode cX12_worth 25 = .ok (.iload_n 3, 1) := by decide +kernel
theorem dX12_worth_26 : decode cX12_worth 26 = .ok (.ifCond .eq 38, 3) := by decide +kernel
theorem dX12_worth_29 : decode cX12_worth 29 = .ok (.aload_n 0, 1) := by decide +kernel
theorem dX12_worth_3 : decode cX12_worth 3 = .ok (.ldc2_w 125, 3) := by decide +kernel
theorem dX12_worth_30 : decode cX12_worth 30 = .ok (.aload_n 0, 1) := by decide +kernel
theorem dX12_worth_31 : decode cX12_worth 31 = .ok (.iload_n 2, 1) := by decide +kernel
theorem dX12_worth_32 : decode cX12_worth 32 = .ok (.invokevirtual 151, 3) := by decide +kernel
theorem dX12_worth_35 : decode cX12_worth 35 = .ok (.ldc2_w 145, 3) := by decide +kernel
theorem dX12_worth_38 : decode cX12_worth 38 = .ok (.iload_n 2, 1) := by decide +kernel
theorem dX12_worth_39 : decode cX12_worth 39 = .ok (.i2l, 1) := by decide +kernel
theorem dX12_worth_40 : decode cX12_worth 40 = .ok (.ladd, 1) := by decide +kernel
theorem dX12_worth_41 : decode cX12_worth 41 = .ok (.bipush 40, 2) := by decide +kernel
theorem dX12_worth_43 : decode cX12_worth 43 = .ok (.iload_n 1, 1) := by decide +kernel
theorem dX12_worth_44 : decode cX12_worth 44 = .ok (.isub, 1) := by decide +kernel
theorem dX12_worth_45 : decode cX12_worth 45 = .ok (.invokestatic 107, 3) := by decide +kernel
theorem dX12_worth_48 : decode cX12_worth 48 = .ok (.ldc2_w 145, 3) := by decide +kernel
theorem dX12_worth_51 : decode cX12_worth 51 = .ok (.iload_n 1, 1) := by decide +kernel
theorem dX12_worth_52 : decode cX12_worth 52 = .ok (.invokestatic 107, 3) := by decide +kernel
theorem dX12_worth_55 : decode cX12_worth 55 = .ok (.invokevirtual 13, 3) := by decide +kernel
theorem dX12_worth_58 : decode cX12_worth 58 = .ok (.invokevirtual 111, 3) := by decide +kernel
theorem dX12_worth_6 : decode cX12_worth 6 = .ok (.invokestatic 91, 3) := by decide +kernel
theorem dX12_worth_61 : decode cX12_worth 61 = .ok (.goto 4, 3) := by decide +kernel
theorem dX12_worth_64 : decode cX12_worth 64 = .ok (.aconst_null, 1) := by decide +kernel
theorem dX12_worth_65 : decode cX12_worth 65 = .ok (.astore 4, 2) := by decide +kernel
theorem dX12_worth_67 : decode cX12_worth 67 = .ok (.aload_n 0, 1) := by decide +kernel
theorem dX12_worth_68 : decode cX12_worth 68 = .ok (.iload_n 3, 1) := by decide +kernel
theorem dX12_worth_69 : decode cX12_worth 69 = .ok (.aload 4, 2) := by decide +kernel
theorem dX12_worth_71 : decode cX12_worth 71 = .ok (.ifnull 7, 3) := by decide +kernel
theorem dX12_worth_74 : decode cX12_worth 74 = .ok (.iconst 1, 1) := by decide +kernel
theorem dX12_worth_75 : decode cX12_worth 75 = .ok (.goto 4, 3) := by decide +kernel
theorem dX12_worth_78 : decode cX12_worth 78 = .ok (.iconst 0, 1) := by decide +kernel
theorem dX12_worth_79 : decode cX12_worth 79 = .ok (.iconst 1, 1) := by decide +kernel
theorem dX12_worth_80 : decode cX12_worth 80 = .ok (.invokevirtual 95, 3) := by decide +kernel
theorem dX12_worth_83 : decode cX12_worth 83 = .ok (.ifCond .eq 12, 3) := by decide +kernel
theorem dX12_worth_86 : decode cX12_worth 86 = .ok (.aload_n 0, 1) := by decide +kernel
theorem dX12_worth_87 : decode cX12_worth 87 = .ok (.aload 4, 2) := by decide +kernel
theorem dX12_worth_89 : decode cX12_worth 89 = .ok (.invokevirtual 115, 3) := by decide +kernel
theorem dX12_worth_9 : decode cX12_worth 9 = .ok (.ifCond .eq 14, 3) := by decide +kernel
theorem dX12_worth_92 : decode cX12_worth 92 = .ok (.goto 4, 3) := by decide +kernel
theorem dX12_worth_95 : decode cX12_worth 95 = .ok (.lconst 0, 1) := by decide +kernel
theorem dX12_worth_96 : decode cX12_worth 96 = .ok (.lreturn, 1) := by decide +kernel
set_option maxRecDepth 20000 in
theorem ggX12_carried_X11_of : GoodIn wsX12_carried wsX11_of := goodIn_r _ [7, 8, 9, 10, 11, 12, 13, 14, 15, 6, 16, 17, 18, 19, 20, 21, 22, 23, 58, 59] (by decide +kernel) (by decide +kernel)
set_option maxRecDepth 20000 in
theorem gX12_carried_X11_of : GoodIn wsX12_carried (va_wsS RX12 7 yX11_of wsX11_of) := goodIn_app (goodIn_of _ (by decide +kernel)) ggX12_carried_X11_of
set_option maxRecDepth 20000 in
theorem ggX12_carried_X11_plus : GoodIn wsX12_carried wsX11_plus := goodIn_r _ [35, 22, 14, 15, 6, 36, 37, 38, 23, 39, 40, 12, 41, 8, 28, 29, 30, 31, 16, 17, 18, 19, 20, 21, 42, 43, 44, 45, 58, 59] (by decide +kernel) (by decide +kernel)
set_option maxRecDepth 20000 in
theorem gX12_carried_X11_plus : GoodIn wsX12_carried (wsV RX12 32 RX11 yX11_plus wsX11_plus) := goodIn_app (goodIn_of _ (by decide +kernel)) ggX12_carried_X11_plus
set_option maxRecDepth 20000 in
theorem ggX12_carried_X11_times : GoodIn wsX12_carried wsX11_times := goodIn_r _ [27, 23, 8, 14, 15, 6, 22, 28, 29, 30, 31, 16, 17, 18, 19, 20, 21, 58, 59] (by decide +kernel) (by decide +kernel)
set_option maxRecDepth 20000 in
theorem gX12_carried_X11_times : GoodIn wsX12_carried (wsV RX12 13 RX11 yX11_times wsX11_times) := goodIn_app (goodIn_of _ (by decide +kernel)) ggX12_carried_X11_times
set_option maxRecDepth 20000 in
theorem ggX12_signAt_X12_carried : GoodIn wsX12_signAt wsX12_carried := goodIn_r _ [17, 18, 19, 20, 21, 22, 23, 24, 25, 26, 27, 28, 29, 30, 31, 32, 33, 34, 35, 36, 37, 38, 39, 40, 41, 42, 43, 44, 45, 46, 47, 48, 49, 50, 51, 52, 53, 54, 55, 56, 57, 58, 59, 60, 61, 62, 65, 66, 67, 68, 69, 70, 71, 72, 73, 74, 75, 76, 63, 64] (by decide +kernel) (by decide +kernel)
set_option maxRecDepth 20000 in
theorem gX12_signAt_X12_carried : GoodIn wsX12_signAt (wsV RX12 151 RX12 yX12_carried wsX12_carried) := goodIn_app (goodIn_of _ (by decide +kernel)) ggX12_signAt_X12_carried
set_option maxRecDepth 20000 in
theorem ggX12_signAt_X12_isRate : GoodIn wsX12_signAt wsX12_isRate := goodIn_r _ [4, 5, 6, 7, 3, 8] (by decide +kernel) (by decide +kernel)
set_option maxRecDepth 20000 in
theorem gX12_signAt_X12_isRate : GoodIn wsX12_signAt (va_wsS RX12 147 yX12_isRate wsX12_isRate) := goodIn_app (goodIn_of _ (by decide +kernel)) ggX12_signAt_X12_isRate
set_option maxRecDepth 20000 in
theorem ggX12_signAt_X12_passes : GoodIn wsX12_signAt wsX12_passes := goodIn_r _ [12, 13, 65, 66, 67, 68, 69, 70, 71, 72, 73, 74, 75, 76] (by decide +kernel) (by decide +kernel)
set_option maxRecDepth 20000 in
theorem gX12_signAt_X12_passes : GoodIn wsX12_signAt (wsV RX12 95 RX12 yX12_passes wsX12_passes) := goodIn_app (goodIn_of _ (by decide +kernel)) ggX12_signAt_X12_passes
set_option maxRecDepth 20000 in
theorem ggX12_worth_X11_times : GoodIn wsX12_worth wsX11_times := goodIn_r _ [40, 36, 21, 27, 28, 19, 35, 41, 42, 43, 44, 29, 30, 31, 32, 33, 34, 142, 143] (by decide +kernel) (by decide +kernel)
set_option maxRecDepth 20000 in
theorem gX12_worth_X11_times : GoodIn wsX12_worth (wsV RX12 13 RX11 yX11_times wsX11_times) := goodIn_app (goodIn_of _ (by decide +kernel)) ggX12_worth_X11_times
set_option maxRecDepth 20000 in
theorem ggX12_worth_X12_carried : GoodIn wsX12_worth wsX12_carried := goodIn_r _ [14, 15, 2, 16, 17, 18, 19, 20, 21, 22, 23, 24, 25, 26, 27, 28, 29, 30, 31, 32, 33, 34, 35, 36, 37, 38, 39, 40, 41, 42, 43, 44, 45, 46, 47, 48, 49, 50, 51, 52, 53, 54, 55, 56, 57, 58, 130, 131, 132, 133, 134, 135, 136, 137, 138, 139, 140, 141, 142, 143] (by decide +kernel) (by decide +kernel)
set_option maxRecDepth 20000 in
theorem gX12_worth_X12_carried : GoodIn wsX12_worth (wsV RX12 151 RX12 yX12_carried wsX12_carried) := goodIn_app (goodIn_of _ (by decide +kernel)) ggX12_worth_X12_carried
set_option maxRecDepth 20000 in
theorem ggX12_worth_X12_in : GoodIn wsX12_worth wsX12_in := goodIn_r _ [6] (by decide +kernel) (by decide +kernel)
set_option maxRecDepth 20000 in
theorem gX12_worth_X12_in : GoodIn wsX12_worth (va_wsS RX12 91 yX12_in wsX12_in) := goodIn_app (goodIn_of _ (by decide +kernel)) ggX12_worth_X12_in
set_option maxRecDepth 20000 in
theorem ggX12_worth_X12_isRate : GoodIn wsX12_worth wsX12_isRate := goodIn_r _ [9, 10, 3, 4, 5, 6] (by decide +kernel) (by decide +kernel)
set_option maxRecDepth 20000 in
theorem gX12_worth_X12_isRate : GoodIn wsX12_worth (va_wsS RX12 147 yX12_isRate wsX12_isRate) := goodIn_app (goodIn_of _ (by decide +kernel)) ggX12_worth_X12_isRate
set_option maxRecDepth 20000 in
theorem ggX12_worth_X12_passes : GoodIn wsX12_worth wsX12_passes := goodIn_r _ [120, 121, 130, 131, 132, 133, 134, 135, 136, 137, 138, 139, 140, 141] (by decide +kernel) (by decide +kernel)
set_option maxRecDepth 20000 in
theorem gX12_worth_X12_passes : GoodIn wsX12_worth (wsV RX12 95 RX12 yX12_passes wsX12_passes) := goodIn_app (goodIn_of _ (by decide +kernel)) ggX12_worth_X12_passes
set_option maxRecDepth 20000 in
theorem ggX12_worth_X12_raised : GoodIn wsX12_worth wsX12_raised := goodIn_r _ [61, 17, 18, 19, 20, 21, 22, 23, 24, 25, 26, 27, 28, 29, 30, 31, 32, 33, 34, 35, 36, 37, 38, 39, 40, 41, 42, 43, 44, 142, 143] (by decide +kernel) (by decide +kernel)
set_option maxRecDepth 20000 in
theorem gX12_worth_X12_raised : GoodIn wsX12_worth (va_wsS RX12 107 yX12_raised wsX12_raised) := goodIn_app (goodIn_of _ (by decide +kernel)) ggX12_worth_X12_raised
set_option maxRecDepth 20000 in
theorem ggX12_worth_X12_rounded : GoodIn wsX12_worth wsX12_rounded := goodIn_r _ [65, 66, 67, 68, 69, 70, 19, 71, 35, 72, 73, 74, 75, 27, 28, 36, 29, 30, 31, 32, 33, 34, 21, 76, 77, 78, 79, 80, 18, 20, 22, 23, 24, 25, 26, 81, 82, 83, 84, 85, 86, 87, 88, 89, 55, 56, 57, 58, 52, 53, 54, 41, 42, 43, 44, 90, 91, 92, 93, 94, 95, 96, 38, 39, 40, 97, 98, 99, 100, 101, 102, 103, 104, 105, 106, 107, 108, 109, 110, 45, 46, 47, 48, 49, 50, 51, 111, 112, 113, 114, 5, 115, 17, 116, 130, 131, 132, 133, 134, 135, 136, 137, 138, 139, 140, 141, 142, 143] (by decide +kernel) (by decide +kernel)
set_option maxRecDepth 20000 in
theorem gX12_worth_X12_rounded : GoodIn wsX12_worth (wsV RX12 111 RX12 yX12_rounded wsX12_rounded) := goodIn_app (goodIn_of _ (by decide +kernel)) ggX12_worth_X12_rounded
set_option maxRecDepth 20000 in
theorem ggX12_worth_X12_tells : GoodIn wsX12_worth wsX12_tells := goodIn_r _ [125, 126, 127, 128, 19, 129, 36, 22, 35, 142, 143] (by decide +kernel) (by decide +kernel)
set_option maxRecDepth 20000 in
theorem gX12_worth_X12_tells : GoodIn wsX12_worth (wsV RX12 115 RX12 yX12_tells wsX12_tells) := goodIn_app (goodIn_of _ (by decide +kernel)) ggX12_worth_X12_tells
