-- printed rows that the walks use
theorem dX9_errors_0 : decode cX9_errors 0 = .ok (.iload_n 1, 1) := by decide +kernel
theorem dX9_errors_1 : decode cX9_errors 1 = .ok (.invokestatic 114, 3) := by decide +kernel
theorem dX9_errors_11 : decode cX9_errors 11 = .ok (.iload_n 1, 1) := by decide +kernel
theorem dX9_errors_12 : decode cX9_errors 12 = .ok (.invokevirtual 260, 3) := by decide +kernel
theorem dX9_errors_15 : decode cX9_errors 15 = .ok (.ifCond .eq 7, 3) := by decide +kernel
theorem dX9_errors_18 : decode cX9_errors 18 = .ok (.iconst 0, 1) := by decide +kernel
theorem dX9_errors_19 : decode cX9_errors 19 = .ok (.goto 4, 3) := by decide +kernel
theorem dX9_errors_23 : decode cX9_errors 23 = .ok (.iadd, 1) := by decide +kernel
theorem dX9_errors_24 : decode cX9_errors 24 = .ok (.istore_n 2, 1) := by decide +kernel
theorem dX9_errors_25 : decode cX9_errors 25 = .ok (.iload_n 2, 1) := by decide +kernel
theorem dX9_errors_26 : decode cX9_errors 26 = .ok (.aload_n 0, 1) := by decide +kernel
theorem dX9_errors_27 : decode cX9_errors 27 = .ok (.getfield 54, 3) := by decide +kernel
theorem dX9_errors_30 : decode cX9_errors 30 = .ok (.invokevirtual 263, 3) := by decide +kernel
theorem dX9_errors_33 : decode cX9_errors 33 = .ok (.ifCond .eq 7, 3) := by decide +kernel
theorem dX9_errors_36 : decode cX9_errors 36 = .ok (.iconst 0, 1) := by decide +kernel
theorem dX9_errors_37 : decode cX9_errors 37 = .ok (.goto 4, 3) := by decide +kernel
theorem dX9_errors_4 : decode cX9_errors 4 = .ok (.iconst 0, 1) := by decide +kernel
theorem dX9_errors_41 : decode cX9_errors 41 = .ok (.iadd, 1) := by decide +kernel
theorem dX9_errors_42 : decode cX9_errors 42 = .ok (.istore_n 2, 1) := by decide +kernel
theorem dX9_errors_43 : decode cX9_errors 43 = .ok (.iload_n 2, 1) := by decide +kernel
theorem dX9_errors_44 : decode cX9_errors 44 = .ok (.aload_n 0, 1) := by decide +kernel
theorem dX9_errors_45 : decode cX9_errors 45 = .ok (.getfield 33, 3) := by decide +kernel
theorem dX9_errors_48 : decode cX9_errors 48 = .ok (.iload_n 1, 1) := by decide +kernel
theorem dX9_errors_49 : decode cX9_errors 49 = .ok (.invokevirtual 267, 3) := by decide +kernel
theorem dX9_errors_5 : decode cX9_errors 5 = .ok (.istore_n 2, 1) := by decide +kernel
theorem dX9_errors_52 : decode cX9_errors 52 = .ok (.ifCond .eq 7, 3) := by decide +kernel
theorem dX9_errors_55 : decode cX9_errors 55 = .ok (.iconst 0, 1) := by decide +kernel
theorem dX9_errors_56 : decode cX9_errors 56 = .ok (.goto 4, 3) := by decide +kernel
theorem dX9_errors_6 : decode cX9_errors 6 = .ok (.iload_n 2, 1) := by decide +kernel
theorem dX9_errors_60 : decode cX9_errors 60 = .ok (.iadd, 1) := by decide +kernel
theorem dX9_errors_61 : decode cX9_errors 61 = .ok (.istore_n 2, 1) := by decide +kernel
theorem dX9_errors_62 : decode cX9_errors 62 = .ok (.iload_n 2, 1) := by decide +kernel
theorem dX9_errors_63 : decode cX9_errors 63 = .ok (.aload_n 0, 1) := by decide +kernel
theorem dX9_errors_64 : decode cX9_errors 64 = .ok (.getfield 40, 3) := by decide +kernel
theorem dX9_errors_67 : decode cX9_errors 67 = .ok (.ldc2_w 270, 3) := by decide +kernel
theorem dX9_errors_7 : decode cX9_errors 7 = .ok (.aload_n 0, 1) := by decide +kernel
theorem dX9_errors_70 : decode cX9_errors 70 = .ok (.invokevirtual 272, 3) := by decide +kernel
theorem dX9_errors_73 : decode cX9_errors 73 = .ok (.ifCond .eq 7, 3) := by decide +kernel
theorem dX9_errors_76 : decode cX9_errors 76 = .ok (.iconst 0, 1) := by decide +kernel
theorem dX9_errors_77 : decode cX9_errors 77 = .ok (.goto 4, 3) := by decide +kernel
theorem dX9_errors_8 : decode cX9_errors 8 = .ok (.getfield 19, 3) := by decide +kernel
theorem dX9_errors_81 : decode cX9_errors 81 = .ok (.iadd, 1) := by decide +kernel
theorem dX9_errors_82 : decode cX9_errors 82 = .ok (.istore_n 2, 1) := by decide +kernel
theorem dX9_errors_83 : decode cX9_errors 83 = .ok (.iload_n 2, 1) := by decide +kernel
theorem dX9_errors_84 : decode cX9_errors 84 = .ok (.ireturn, 1) := by decide +kernel
theorem dX9_interestShare_0 : decode cX9_interestShare 0 = .ok (.aload_n 0, 1) := by decide +kernel
theorem dX9_interestShare_1 : decode cX9_interestShare 1 = .ok (.getfield 54, 3) := by decide +kernel
theorem dX9_interestShare_10 : decode cX9_interestShare 10 = .ok (.lconst 0, 1) := by decide +kernel
theorem dX9_interestShare_11 : decode cX9_interestShare 11 = .ok (.lcmp, 1) := by decide +kernel
theorem dX9_interestShare_12 : decode cX9_interestShare 12 = .ok (.ifCond .ne 7, 3) := by decide +kernel
theorem dX9_interestShare_15 : decode cX9_interestShare 15 = .ok (.fconst 0, 1) := by decide +kernel
theorem dX9_interestShare_16 : decode cX9_interestShare 16 = .ok (.goto 15, 3) := by decide +kernel
theorem dX9_interestShare_19 : decode cX9_interestShare 19 = .ok (.aload_n 0, 1) := by decide +kernel
theorem dX9_interestShare_20 : decode cX9_interestShare 20 = .ok (.getfield 54, 3) := by decide +kernel
theorem dX9_interestShare_23 : decode cX9_interestShare 23 = .ok (.iconst 1, 1) := by decide +kernel
theorem dX9_interestShare_24 : decode cX9_interestShare 24 = .ok (.invokevirtual 184, 3) := by decide +kernel
theorem dX9_interestShare_27 : decode cX9_interestShare 27 = .ok (.l2f, 1) := by decide +kernel
theorem dX9_interestShare_28 : decode cX9_interestShare 28 = .ok (.lload_n 1, 1) := by decide +kernel
theorem dX9_interestShare_29 : decode cX9_interestShare 29 = .ok (.l2f, 1) := by decide +kernel
theorem dX9_interestShare_30 : decode cX9_interestShare 30 = .ok (.fdiv, 1) := by decide +kernel
theorem dX9_interestShare_31 : decode cX9_interestShare 31 = .ok (.freturn, 1) := by decide +kernel
theorem dX9_interestShare_4 : decode cX9_interestShare 4 = .ok (.iconst 2, 1) := by decide +kernel
theorem dX9_interestShare_5 : decode cX9_interestShare 5 = .ok (.invokevirtual 184, 3) := by decide +kernel
theorem dX9_interestShare_8 : decode cX9_interestShare 8 = .ok (.lstore_n 1, 1) := by decide +kernel
theorem dX9_interestShare_9 : decode cX9_interestShare 9 = .ok (.lload_n 1, 1) := by decide +kernel
theorem dX9_meanAmount_0 : decode cX9_meanAmount 0 = .ok (.aload_n 0, 1) := by decide +kernel
theorem dX9_meanAmount_1 : decode cX9_meanAmount 1 = .ok (.getfield 19, 3) := by decide +kernel
theorem dX9_meanAmount_16 : decode cX9_meanAmount 16 = .ok (.aload_n 0, 1) := by decide +kernel
theorem dX9_meanAmount_17 : decode cX9_meanAmount 17 = .ok (.getfield 19, 3) := by decide +kernel
theorem dX9_meanAmount_20 : decode cX9_meanAmount 20 = .ok (.invokevirtual 276, 3) := by decide +kernel
theorem dX9_meanAmount_23 : decode cX9_meanAmount 23 = .ok (.l2d, 1) := by decide +kernel
theorem dX9_meanAmount_24 : decode cX9_meanAmount 24 = .ok (.iload_n 1, 1) := by decide +kernel
theorem dX9_meanAmount_25 : decode cX9_meanAmount 25 = .ok (.i2d, 1) := by decide +kernel
theorem dX9_meanAmount_26 : decode cX9_meanAmount 26 = .ok (.ddiv, 1) := by decide +kernel
theorem dX9_meanAmount_27 : decode cX9_meanAmount 27 = .ok (.dreturn, 1) := by decide +kernel
theorem dX9_meanAmount_4 : decode cX9_meanAmount 4 = .ok (.invokevirtual 107, 3) := by decide +kernel
theorem dX9_meanAmount_7 : decode cX9_meanAmount 7 = .ok (.istore_n 1, 1) := by decide +kernel
theorem dX9_meanAmount_8 : decode cX9_meanAmount 8 = .ok (.iload_n 1, 1) := by decide +kernel
theorem dX9_meanAmount_9 : decode cX9_meanAmount 9 = .ok (.ifCond .ne 7, 3) := by decide +kernel
set_option maxRecDepth 20000 in
theorem ggX9_errors_X2_isSumShared : GoodIn wsX9_errors wsX2_isSumShared := goodIn_r _ [131, 132, 133, 134, 135, 136, 137, 138, 139, 140, 141, 142, 143, 130, 144, 145, 34, 35, 36, 37, 38, 39, 40, 41, 42, 43, 44, 45, 46, 47, 48, 49, 50, 51, 52, 53, 54, 55, 56, 57, 58, 59, 60, 61, 62, 63, 64, 65, 66, 67, 68, 146, 70, 71, 72, 73, 74, 75, 76, 77, 78, 79, 80, 81, 82, 83, 84, 85, 86, 87, 88, 89, 90, 91, 92, 93, 94, 95, 96, 97, 98, 99, 100, 101, 102, 103, 104, 105, 147, 148, 149, 150, 151, 152, 153, 154, 155, 156, 157, 158, 159, 160, 161, 162, 112, 113, 114, 206, 207, 208, 209, 189, 190, 191, 192, 193, 194, 195, 196, 197] (by decide +kernel) (by decide +kernel)
set_option maxRecDepth 20000 in
theorem gX9_errors_X2_isSumShared : GoodIn wsX9_errors (wsV RX9 267 RX2 yX2_isSumShared wsX2_isSumShared) := goodIn_app (goodIn_of _ (by decide +kernel)) ggX9_errors_X2_isSumShared
set_option maxRecDepth 20000 in
theorem ggX9_errors_X3_isRepaid : GoodIn wsX9_errors wsX3_isRepaid := goodIn_r _ [119, 120, 121, 122, 123, 118, 124, 125, 126, 198, 199, 200, 201, 202, 203, 204, 205] (by decide +kernel) (by decide +kernel)
set_option maxRecDepth 20000 in
theorem gX9_errors_X3_isRepaid : GoodIn wsX9_errors (wsV RX9 263 RX3 yX3_isRepaid wsX3_isRepaid) := goodIn_app (goodIn_of _ (by decide +kernel)) ggX9_errors_X3_isRepaid
set_option maxRecDepth 20000 in
theorem ggX9_errors_X5_isCarriedAlike : GoodIn wsX9_errors wsX5_isCarriedAlike := goodIn_r _ [23, 24, 25, 26, 27, 28, 29, 30, 31, 22, 32, 33, 34, 35, 36, 37, 38, 39, 40, 41, 42, 43, 44, 45, 46, 47, 48, 49, 50, 51, 52, 53, 54, 55, 56, 57, 58, 59, 60, 61, 62, 63, 64, 65, 66, 67, 68, 69, 70, 71, 72, 73, 74, 75, 76, 77, 78, 79, 80, 81, 82, 83, 84, 85, 86, 87, 88, 89, 90, 91, 92, 93, 94, 95, 96, 97, 98, 99, 100, 101, 102, 103, 104, 105, 106, 107, 108, 109, 110, 111, 112, 113, 114, 186, 187, 188, 189, 190, 191, 192, 193, 194, 195, 196, 197] (by decide +kernel) (by decide +kernel)
set_option maxRecDepth 20000 in
theorem gX9_errors_X5_isCarriedAlike : GoodIn wsX9_errors (wsV RX9 260 RX5 yX5_isCarriedAlike wsX5_isCarriedAlike) := goodIn_app (goodIn_of _ (by decide +kernel)) ggX9_errors_X5_isCarriedAlike
set_option maxRecDepth 20000 in
theorem ggX9_errors_X6_isPartedWhole : GoodIn wsX9_errors wsX6_isPartedWhole := goodIn_r _ [167, 168, 169, 170, 171, 166, 172, 173, 174, 175, 176, 177, 210, 211] (by decide +kernel) (by decide +kernel)
set_option maxRecDepth 20000 in
theorem gX9_errors_X6_isPartedWhole : GoodIn wsX9_errors (wsV RX9 272 RX6 yX6_isPartedWhole wsX6_isPartedWhole) := goodIn_app (goodIn_of _ (by decide +kernel)) ggX9_errors_X6_isPartedWhole
set_option maxRecDepth 20000 in
theorem ggX9_errors_X9_demandRate : GoodIn wsX9_errors wsX9_demandRate := goodIn_ca (goodIn_r _ [9, 10, 11, 12, 8, 13, 14, 15, 16, 17, 18] (by decide +kernel) (by decide +kernel)) (goodIn_sub (fun _ h => List.mem_cons_of_mem _ (List.mem_append_right _ h)) (by decide +kernel))
set_option maxRecDepth 20000 in
theorem gX9_errors_X9_demandRate : GoodIn wsX9_errors (va_wsS RX9 114 yX9_demandRate wsX9_demandRate) := goodIn_app (goodIn_of _ (by decide +kernel)) ggX9_errors_X9_demandRate
set_option maxRecDepth 20000 in
theorem ggX9_interestShare_X3_sumOf : GoodIn wsX9_interestShare wsX3_sumOf := goodIn_r _ [6, 7, 8, 17, 18, 19, 20, 21, 22, 23, 24] (by decide +kernel) (by decide +kernel)
set_option maxRecDepth 20000 in
theorem gX9_interestShare_X3_sumOf : GoodIn wsX9_interestShare (wsV RX9 184 RX3 yX3_sumOf wsX3_sumOf) := goodIn_app (goodIn_of _ (by decide +kernel)) ggX9_interestShare_X3_sumOf
set_option maxRecDepth 20000 in
theorem ggX9_meanAmount_X5_countPaying : GoodIn wsX9_meanAmount wsX5_countPaying := goodIn_r _ [6, 7, 20, 21, 22] (by decide +kernel) (by decide +kernel)
set_option maxRecDepth 20000 in
theorem gX9_meanAmount_X5_countPaying : GoodIn wsX9_meanAmount (wsV RX9 107 RX5 yX5_countPaying wsX5_countPaying) := goodIn_app (goodIn_of _ (by decide +kernel)) ggX9_meanAmount_X5_countPaying
set_option maxRecDepth 20000 in
theorem ggX9_meanAmount_X5_sum : GoodIn wsX9_meanAmount wsX5_sum := goodIn_r _ [11, 7, 20, 21, 22] (by decide +kernel) (by decide +kernel)
set_option maxRecDepth 20000 in
theorem gX9_meanAmount_X5_sum : GoodIn wsX9_meanAmount (wsV RX9 276 RX5 yX5_sum wsX5_sum) := goodIn_app (goodIn_of _ (by decide +kernel)) ggX9_meanAmount_X5_sum
