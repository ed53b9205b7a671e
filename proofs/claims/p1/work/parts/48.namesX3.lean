-- printed rows that the walks use
theorem dX3_begin_0 : decode cX3_begin 0 = .ok (.aload_n 0, 1) := by decide +kernel
theorem dX3_begin_1 : decode cX3_begin 1 = .ok (.lload_n 1, 1) := by decide +kernel
theorem dX3_begin_11 : decode cX3_begin 11 = .ok (.iconst 1, 1) := by decide +kernel
theorem dX3_begin_12 : decode cX3_begin 12 = .ok (.istore 5, 2) := by decide +kernel
theorem dX3_begin_14 : decode cX3_begin 14 = .ok (.iload 5, 2) := by decide +kernel
theorem dX3_begin_16 : decode cX3_begin 16 = .ok (.bipush 60, 2) := by decide +kernel
theorem dX3_begin_18 : decode cX3_begin 18 = .ok (.if_icmp .gt 43, 3) := by decide +kernel
theorem dX3_begin_2 : decode cX3_begin 2 = .ok (.putfield 35, 3) := by decide +kernel
theorem dX3_begin_21 : decode cX3_begin 21 = .ok (.aload_n 0, 1) := by decide +kernel
theorem dX3_begin_22 : decode cX3_begin 22 = .ok (.getfield 9, 3) := by decide +kernel
theorem dX3_begin_25 : decode cX3_begin 25 = .ok (.iload 5, 2) := by decide +kernel
theorem dX3_begin_27 : decode cX3_begin 27 = .ok (.iload 5, 2) := by decide +kernel
theorem dX3_begin_29 : decode cX3_begin 29 = .ok (.iconst 1, 1) := by decide +kernel
theorem dX3_begin_30 : decode cX3_begin 30 = .ok (.if_icmp .ne 7, 3) := by decide +kernel
theorem dX3_begin_33 : decode cX3_begin 33 = .ok (.iload_n 3, 1) := by decide +kernel
theorem dX3_begin_34 : decode cX3_begin 34 = .ok (.goto 4, 3) := by decide +kernel
theorem dX3_begin_37 : decode cX3_begin 37 = .ok (.iconst (-1), 1) := by decide +kernel
theorem dX3_begin_38 : decode cX3_begin 38 = .ok (.iastore, 1) := by decide +kernel
theorem dX3_begin_39 : decode cX3_begin 39 = .ok (.aload_n 0, 1) := by decide +kernel
theorem dX3_begin_40 : decode cX3_begin 40 = .ok (.getfield 15, 3) := by decide +kernel
theorem dX3_begin_43 : decode cX3_begin 43 = .ok (.iload 5, 2) := by decide +kernel
theorem dX3_begin_45 : decode cX3_begin 45 = .ok (.lconst 0, 1) := by decide +kernel
theorem dX3_begin_46 : decode cX3_begin 46 = .ok (.lastore, 1) := by decide +kernel
theorem dX3_begin_47 : decode cX3_begin 47 = .ok (.aload_n 0, 1) := by decide +kernel
theorem dX3_begin_48 : decode cX3_begin 48 = .ok (.getfield 19, 3) := by decide +kernel
theorem dX3_begin_5 : decode cX3_begin 5 = .ok (.aload_n 0, 1) := by decide +kernel
theorem dX3_begin_51 : decode cX3_begin 51 = .ok (.iload 5, 2) := by decide +kernel
theorem dX3_begin_53 : decode cX3_begin 53 = .ok (.iconst 0, 1) := by decide +kernel
theorem dX3_begin_54 : decode cX3_begin 54 = .ok (.bastore, 1) := by decide +kernel
theorem dX3_begin_55 : decode cX3_begin 55 = .ok (.iinc 5 1, 3) := by decide +kernel
theorem dX3_begin_58 : decode cX3_begin 58 = .ok (.goto (-44), 3) := by decide +kernel
theorem dX3_begin_6 : decode cX3_begin 6 = .ok (.iload 4, 2) := by decide +kernel
theorem dX3_begin_61 : decode cX3_begin 61 = .ok (.return_, 1) := by decide +kernel
theorem dX3_begin_8 : decode cX3_begin 8 = .ok (.putfield 39, 3) := by decide +kernel
theorem dX3_instalmentFor_0 : decode cX3_instalmentFor 0 = .ok (.aload_n 0, 1) := by decide +kernel
theorem dX3_instalmentFor_1 : decode cX3_instalmentFor 1 = .ok (.getfield 31, 3) := by decide +kernel
theorem dX3_instalmentFor_10 : decode cX3_instalmentFor 10 = .ok (.istore 6, 2) := by decide +kernel
theorem dX3_instalmentFor_12 : decode cX3_instalmentFor 12 = .ok (.iload 6, 2) := by decide +kernel
theorem dX3_instalmentFor_14 : decode cX3_instalmentFor 14 = .ok (.iload 4, 2) := by decide +kernel
theorem dX3_instalmentFor_16 : decode cX3_instalmentFor 16 = .ok (.if_icmp .gt 17, 3) := by decide +kernel
theorem dX3_instalmentFor_19 : decode cX3_instalmentFor 19 = .ok (.aload_n 0, 1) := by decide +kernel
theorem dX3_instalmentFor_20 : decode cX3_instalmentFor 20 = .ok (.getfield 31, 3) := by decide +kernel
theorem dX3_instalmentFor_23 : decode cX3_instalmentFor 23 = .ok (.lconst 1, 1) := by decide +kernel
theorem dX3_instalmentFor_24 : decode cX3_instalmentFor 24 = .ok (.invokevirtual 66, 3) := by decide +kernel
theorem dX3_instalmentFor_27 : decode cX3_instalmentFor 27 = .ok (.iinc 6 1, 3) := by decide +kernel
theorem dX3_instalmentFor_30 : decode cX3_instalmentFor 30 = .ok (.goto (-18), 3) := by decide +kernel
theorem dX3_instalmentFor_33 : decode cX3_instalmentFor 33 = .ok (.aload 5, 2) := by decide +kernel
theorem dX3_instalmentFor_35 : decode cX3_instalmentFor 35 = .ok (.aload_n 0, 1) := by decide +kernel
theorem dX3_instalmentFor_36 : decode cX3_instalmentFor 36 = .ok (.getfield 31, 3) := by decide +kernel
theorem dX3_instalmentFor_39 : decode cX3_instalmentFor 39 = .ok (.lload_n 1, 1) := by decide +kernel
theorem dX3_instalmentFor_4 : decode cX3_instalmentFor 4 = .ok (.iload_n 3, 1) := by decide +kernel
theorem dX3_instalmentFor_40 : decode cX3_instalmentFor 40 = .ok (.iload 4, 2) := by decide +kernel
theorem dX3_instalmentFor_42 : decode cX3_instalmentFor 42 = .ok (.invokevirtual 70, 3) := by decide +kernel
theorem dX3_instalmentFor_45 : decode cX3_instalmentFor 45 = .ok (.aload_n 0, 1) := by decide +kernel
theorem dX3_instalmentFor_46 : decode cX3_instalmentFor 46 = .ok (.getfield 31, 3) := by decide +kernel
theorem dX3_instalmentFor_49 : decode cX3_instalmentFor 49 = .ok (.getfield 74, 3) := by decide +kernel
theorem dX3_instalmentFor_5 : decode cX3_instalmentFor 5 = .ok (.lconst 0, 1) := by decide +kernel
theorem dX3_instalmentFor_52 : decode cX3_instalmentFor 52 = .ok (.invokevirtual 78, 3) := by decide +kernel
theorem dX3_instalmentFor_55 : decode cX3_instalmentFor 55 = .ok (.lreturn, 1) := by decide +kernel
theorem dX3_instalmentFor_6 : decode cX3_instalmentFor 6 = .ok (.invokevirtual 62, 3) := by decide +kernel
theorem dX3_instalmentFor_9 : decode cX3_instalmentFor 9 = .ok (.iconst 1, 1) := by decide +kernel
theorem dX3_paidIn_0 : decode cX3_paidIn 0 = .ok (.aload_n 0, 1) := by decide +kernel
theorem dX3_paidIn_1 : decode cX3_paidIn 1 = .ok (.getfield 19, 3) := by decide +kernel
theorem dX3_paidIn_11 : decode cX3_paidIn 11 = .ok (.iload_n 1, 1) := by decide +kernel
theorem dX3_paidIn_12 : decode cX3_paidIn 12 = .ok (.aload_n 0, 1) := by decide +kernel
theorem dX3_paidIn_13 : decode cX3_paidIn 13 = .ok (.getfield 39, 3) := by decide +kernel
theorem dX3_paidIn_16 : decode cX3_paidIn 16 = .ok (.if_icmp .eq 10, 3) := by decide +kernel
theorem dX3_paidIn_19 : decode cX3_paidIn 19 = .ok (.lload_n 2, 1) := by decide +kernel
theorem dX3_paidIn_20 : decode cX3_paidIn 20 = .ok (.lload 4, 2) := by decide +kernel
theorem dX3_paidIn_22 : decode cX3_paidIn 22 = .ok (.lcmp, 1) := by decide +kernel
theorem dX3_paidIn_23 : decode cX3_paidIn 23 = .ok (.ifCond .gt 5, 3) := by decide +kernel
theorem dX3_paidIn_26 : decode cX3_paidIn 26 = .ok (.lload_n 2, 1) := by decide +kernel
theorem dX3_paidIn_27 : decode cX3_paidIn 27 = .ok (.lreturn, 1) := by decide +kernel
theorem dX3_paidIn_28 : decode cX3_paidIn 28 = .ok (.lload 4, 2) := by decide +kernel
theorem dX3_paidIn_30 : decode cX3_paidIn 30 = .ok (.aload_n 0, 1) := by decide +kernel
theorem dX3_paidIn_31 : decode cX3_paidIn 31 = .ok (.getfield 15, 3) := by decide +kernel
theorem dX3_paidIn_34 : decode cX3_paidIn 34 = .ok (.iload_n 1, 1) := by decide +kernel
theorem dX3_paidIn_35 : decode cX3_paidIn 35 = .ok (.laload, 1) := by decide +kernel
theorem dX3_paidIn_36 : decode cX3_paidIn 36 = .ok (.lload_n 2, 1) := by decide +kernel
theorem dX3_paidIn_37 : decode cX3_paidIn 37 = .ok (.lload 4, 2) := by decide +kernel
theorem dX3_paidIn_39 : decode cX3_paidIn 39 = .ok (.lsub, 1) := by decide +kernel
theorem dX3_paidIn_4 : decode cX3_paidIn 4 = .ok (.iload_n 1, 1) := by decide +kernel
theorem dX3_paidIn_40 : decode cX3_paidIn 40 = .ok (.invokestatic 81, 3) := by decide +kernel
theorem dX3_paidIn_43 : decode cX3_paidIn 43 = .ok (.ladd, 1) := by decide +kernel
theorem dX3_paidIn_44 : decode cX3_paidIn 44 = .ok (.lreturn, 1) := by decide +kernel
theorem dX3_paidIn_5 : decode cX3_paidIn 5 = .ok (.baload, 1) := by decide +kernel
theorem dX3_paidIn_6 : decode cX3_paidIn 6 = .ok (.ifCond .eq 5, 3) := by decide +kernel
set_option maxRecDepth 20000 in
theorem ggX3_instalmentFor_X1_begin : GoodIn wsX3_instalmentFor wsX1_begin := goodIn_r _ [7, 8, 9, 10, 6, 11, 12, 13, 14, 15, 16, 17, 18, 19, 20, 21, 22, 23, 24, 25, 26, 27, 28, 29, 30, 31, 32, 33, 34, 35, 36, 37, 38, 143, 144, 145, 146, 147, 148, 149, 150, 151] (by decide +kernel) (by decide +kernel)
set_option maxRecDepth 20000 in
theorem gX3_instalmentFor_X1_begin : GoodIn wsX3_instalmentFor (wsV RX3 62 RX1 yX1_begin wsX1_begin) := goodIn_app (goodIn_of _ (by decide +kernel)) ggX3_instalmentFor_X1_begin
set_option maxRecDepth 20000 in
theorem ggX3_instalmentFor_X1_next : GoodIn wsX3_instalmentFor wsX1_next := goodIn_r _ [42, 25, 22, 24, 21, 23, 43, 44, 45, 29, 46, 35, 36, 37, 38, 47, 48, 49, 50, 51, 52, 53, 54, 55, 56, 57, 58, 59, 60, 61, 62, 63, 15, 64, 65, 66, 67, 68, 31, 32, 33, 34, 69, 70, 71, 72, 73, 74, 75, 143, 144, 145, 146, 147, 148, 149, 150, 151] (by decide +kernel) (by decide +kernel)
set_option maxRecDepth 20000 in
theorem gX3_instalmentFor_X1_next : GoodIn wsX3_instalmentFor (wsV RX3 66 RX1 yX1_next wsX1_next) := goodIn_app (goodIn_of _ (by decide +kernel)) ggX3_instalmentFor_X1_next
set_option maxRecDepth 20000 in
theorem ggX3_instalmentFor_X1_upPower : GoodIn wsX3_instalmentFor wsX1_upPower := goodIn_r _ [79, 80, 21, 26, 27, 28, 29, 30, 31, 32, 33, 34, 35, 36, 37, 38, 81, 82, 83, 84, 85, 44, 45, 46, 47, 48, 49, 50, 51, 52, 53, 54, 55, 56, 57, 58, 59, 60, 61, 62, 63, 15, 64, 65, 66, 67, 68, 143, 144, 145, 146, 147, 148, 149, 150, 151] (by decide +kernel) (by decide +kernel)
set_option maxRecDepth 20000 in
theorem gX3_instalmentFor_X1_upPower : GoodIn wsX3_instalmentFor (wsV RX3 70 RX1 yX1_upPower wsX1_upPower) := goodIn_app (goodIn_of _ (by decide +kernel)) ggX3_instalmentFor_X1_upPower
set_option maxRecDepth 20000 in
theorem ggX3_instalmentFor_X4_ratio_ : GoodIn wsX3_instalmentFor wsX4_ratio_ := goodIn_ca (goodIn_r _ [90, 91, 92, 93, 94, 95, 29, 96, 38, 35, 97, 44, 45, 46, 36, 37, 47, 48, 49, 50, 51, 52, 53, 54, 55, 56, 57, 58, 59, 60, 61, 62, 63, 15, 64, 65, 66, 67, 68, 31, 32, 33, 34, 98, 99, 100, 101, 102, 103, 14, 16, 104, 105, 106, 107, 108, 109, 110, 111, 85, 112, 113, 114, 115, 116, 70, 71, 72, 73, 74, 75, 117, 118, 119, 89, 120, 121, 122, 123, 124, 125, 126, 127, 128, 129, 130, 131, 132, 133, 134, 149, 150, 151, 152] (by decide +kernel) (by decide +kernel)) (goodIn_sub (fun _ h => List.mem_cons_of_mem _ (List.mem_append_right _ h)) (by decide +kernel))
set_option maxRecDepth 20000 in
theorem gX3_instalmentFor_X4_ratio_ : GoodIn wsX3_instalmentFor (wsV RX3 78 RX4 yX4_ratio_ wsX4_ratio_) := goodIn_app (goodIn_of _ (by decide +kernel)) ggX3_instalmentFor_X4_ratio_
