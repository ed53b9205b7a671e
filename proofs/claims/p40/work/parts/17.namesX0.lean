-- printed rows that the walks use
theorem dX0_carry_0 : decode cX0_carry 0 = .ok (.aload_n 0, 1) := by decide +kernel
theorem dX0_carry_1 : decode cX0_carry 1 = .ok (.getfield 12, 3) := by decide +kernel
theorem dX0_carry_10 : decode cX0_carry 10 = .ok (.iconst 1, 1) := by decide +kernel
theorem dX0_carry_11 : decode cX0_carry 11 = .ok (.istore 7, 2) := by decide +kernel
theorem dX0_carry_13 : decode cX0_carry 13 = .ok (.iload 7, 2) := by decide +kernel
theorem dX0_carry_15 : decode cX0_carry 15 = .ok (.iload 5, 2) := by decide +kernel
theorem dX0_carry_17 : decode cX0_carry 17 = .ok (.if_icmp .ge 17, 3) := by decide +kernel
theorem dX0_carry_20 : decode cX0_carry 20 = .ok (.aload_n 0, 1) := by decide +kernel
theorem dX0_carry_21 : decode cX0_carry 21 = .ok (.getfield 12, 3) := by decide +kernel
theorem dX0_carry_24 : decode cX0_carry 24 = .ok (.lload_n 1, 1) := by decide +kernel
theorem dX0_carry_25 : decode cX0_carry 25 = .ok (.invokevirtual 51, 3) := by decide +kernel
theorem dX0_carry_28 : decode cX0_carry 28 = .ok (.iinc 7 1, 3) := by decide +kernel
theorem dX0_carry_31 : decode cX0_carry 31 = .ok (.goto (-18), 3) := by decide +kernel
theorem dX0_carry_34 : decode cX0_carry 34 = .ok (.aload_n 0, 1) := by decide +kernel
theorem dX0_carry_35 : decode cX0_carry 35 = .ok (.getfield 12, 3) := by decide +kernel
theorem dX0_carry_38 : decode cX0_carry 38 = .ok (.lload_n 1, 1) := by decide +kernel
theorem dX0_carry_39 : decode cX0_carry 39 = .ok (.lload_n 3, 1) := by decide +kernel
theorem dX0_carry_4 : decode cX0_carry 4 = .ok (.iload 6, 2) := by decide +kernel
theorem dX0_carry_40 : decode cX0_carry 40 = .ok (.ladd, 1) := by decide +kernel
theorem dX0_carry_41 : decode cX0_carry 41 = .ok (.invokevirtual 51, 3) := by decide +kernel
theorem dX0_carry_44 : decode cX0_carry 44 = .ok (.return_, 1) := by decide +kernel
theorem dX0_carry_6 : decode cX0_carry 6 = .ok (.lconst 0, 1) := by decide +kernel
theorem dX0_carry_7 : decode cX0_carry 7 = .ok (.invokevirtual 47, 3) := by decide +kernel
theorem dX0_init_0 : decode cX0_init 0 = .ok (.aload_n 0, 1) := by decide +kernel
theorem dX0_init_1 : decode cX0_init 1 = .ok (.invokespecial 3, 3) := by decide +kernel
theorem dX0_init_12 : decode cX0_init 12 = .ok (.putfield 12, 3) := by decide +kernel
theorem dX0_init_15 : decode cX0_init 15 = .ok (.return_, 1) := by decide +kernel
theorem dX0_init_4 : decode cX0_init 4 = .ok (.aload_n 0, 1) := by decide +kernel
theorem dX0_init_5 : decode cX0_init 5 = .ok (.new 9, 3) := by decide +kernel
theorem dX0_init_8 : decode cX0_init 8 = .ok (.dup, 1) := by decide +kernel
theorem dX0_init_9 : decode cX0_init 9 = .ok (.invokespecial 11, 3) := by decide +kernel
theorem dX0_isWorthAtMost_0 : decode cX0_isWorthAtMost 0 = .ok (.aload_n 0, 1) := by decide +kernel
theorem dX0_isWorthAtMost_1 : decode cX0_isWorthAtMost 1 = .ok (.lload_n 1, 1) := by decide +kernel
theorem dX0_isWorthAtMost_10 : decode cX0_isWorthAtMost 10 = .ok (.aload_n 0, 1) := by decide +kernel
theorem dX0_isWorthAtMost_11 : decode cX0_isWorthAtMost 11 = .ok (.getfield 12, 3) := by decide +kernel
theorem dX0_isWorthAtMost_14 : decode cX0_isWorthAtMost 14 = .ok (.lload 7, 2) := by decide +kernel
theorem dX0_isWorthAtMost_16 : decode cX0_isWorthAtMost 16 = .ok (.iload 5, 2) := by decide +kernel
theorem dX0_isWorthAtMost_18 : decode cX0_isWorthAtMost 18 = .ok (.invokevirtual 26, 3) := by decide +kernel
theorem dX0_isWorthAtMost_2 : decode cX0_isWorthAtMost 2 = .ok (.lload_n 3, 1) := by decide +kernel
theorem dX0_isWorthAtMost_21 : decode cX0_isWorthAtMost 21 = .ok (.aload_n 0, 1) := by decide +kernel
theorem dX0_isWorthAtMost_22 : decode cX0_isWorthAtMost 22 = .ok (.getfield 12, 3) := by decide +kernel
theorem dX0_isWorthAtMost_25 : decode cX0_isWorthAtMost 25 = .ok (.getfield 22, 3) := by decide +kernel
theorem dX0_isWorthAtMost_28 : decode cX0_isWorthAtMost 28 = .ok (.iconst 0, 1) := by decide +kernel
theorem dX0_isWorthAtMost_29 : decode cX0_isWorthAtMost 29 = .ok (.invokevirtual 41, 3) := by decide +kernel
theorem dX0_isWorthAtMost_3 : decode cX0_isWorthAtMost 3 = .ok (.iload 5, 2) := by decide +kernel
theorem dX0_isWorthAtMost_32 : decode cX0_isWorthAtMost 32 = .ok (.ireturn, 1) := by decide +kernel
theorem dX0_isWorthAtMost_5 : decode cX0_isWorthAtMost 5 = .ok (.iload 6, 2) := by decide +kernel
theorem dX0_isWorthAtMost_7 : decode cX0_isWorthAtMost 7 = .ok (.invokevirtual 18, 3) := by decide +kernel
theorem dX0_worthNow_0 : decode cX0_worthNow 0 = .ok (.aload_n 0, 1) := by decide +kernel
theorem dX0_worthNow_1 : decode cX0_worthNow 1 = .ok (.lload_n 1, 1) := by decide +kernel
theorem dX0_worthNow_10 : decode cX0_worthNow 10 = .ok (.aload 7, 2) := by decide +kernel
theorem dX0_worthNow_12 : decode cX0_worthNow 12 = .ok (.aload_n 0, 1) := by decide +kernel
theorem dX0_worthNow_13 : decode cX0_worthNow 13 = .ok (.getfield 12, 3) := by decide +kernel
theorem dX0_worthNow_16 : decode cX0_worthNow 16 = .ok (.getfield 22, 3) := by decide +kernel
theorem dX0_worthNow_19 : decode cX0_worthNow 19 = .ok (.aload_n 0, 1) := by decide +kernel
theorem dX0_worthNow_2 : decode cX0_worthNow 2 = .ok (.lload_n 3, 1) := by decide +kernel
theorem dX0_worthNow_20 : decode cX0_worthNow 20 = .ok (.getfield 12, 3) := by decide +kernel
theorem dX0_worthNow_23 : decode cX0_worthNow 23 = .ok (.lconst 1, 1) := by decide +kernel
theorem dX0_worthNow_24 : decode cX0_worthNow 24 = .ok (.iload 5, 2) := by decide +kernel
theorem dX0_worthNow_26 : decode cX0_worthNow 26 = .ok (.invokevirtual 26, 3) := by decide +kernel
theorem dX0_worthNow_29 : decode cX0_worthNow 29 = .ok (.invokevirtual 30, 3) := by decide +kernel
theorem dX0_worthNow_3 : decode cX0_worthNow 3 = .ok (.iload 5, 2) := by decide +kernel
theorem dX0_worthNow_32 : decode cX0_worthNow 32 = .ok (.lreturn, 1) := by decide +kernel
theorem dX0_worthNow_5 : decode cX0_worthNow 5 = .ok (.iload 6, 2) := by decide +kernel
theorem dX0_worthNow_7 : decode cX0_worthNow 7 = .ok (.invokevirtual 18, 3) := by decide +kernel
theorem dX0_yieldPoints_0 : decode cX0_yieldPoints 0 = .ok (.aload_n 0, 1) := by decide +kernel
theorem dX0_yieldPoints_1 : decode cX0_yieldPoints 1 = .ok (.lload_n 1, 1) := by decide +kernel
theorem dX0_yieldPoints_10 : decode cX0_yieldPoints 10 = .ok (.invokevirtual 36, 3) := by decide +kernel
theorem dX0_yieldPoints_13 : decode cX0_yieldPoints 13 = .ok (.ifCond .ne 5, 3) := by decide +kernel
theorem dX0_yieldPoints_16 : decode cX0_yieldPoints 16 = .ok (.iconst (-1), 1) := by decide +kernel
theorem dX0_yieldPoints_17 : decode cX0_yieldPoints 17 = .ok (.ireturn, 1) := by decide +kernel
theorem dX0_yieldPoints_18 : decode cX0_yieldPoints 18 = .ok (.iconst 0, 1) := by decide +kernel
theorem dX0_yieldPoints_19 : decode cX0_yieldPoints 19 = .ok (.istore 8, 2) := by decide +kernel
theorem dX0_yieldPoints_2 : decode cX0_yieldPoints 2 = .ok (.lload_n 3, 1) := by decide +kernel
theorem dX0_yieldPoints_21 : decode cX0_yieldPoints 21 = .ok (.sipush 20000, 3) := by decide +kernel
theorem dX0_yieldPoints_24 : decode cX0_yieldPoints 24 = .ok (.istore 9, 2) := by decide +kernel
theorem dX0_yieldPoints_26 : decode cX0_yieldPoints 26 = .ok (.iconst 0, 1) := by decide +kernel
theorem dX0_yieldPoints_27 : decode cX0_yieldPoints 27 = .ok (.istore 10, 2) := by decide +kernel
theorem dX0_yieldPoints_29 : decode cX0_yieldPoints 29 = .ok (.iload 10, 2) := by decide +kernel
theorem dX0_yieldPoints_3 : decode cX0_yieldPoints 3 = .ok (.iload 5, 2) := by decide +kernel
theorem dX0_yieldPoints_31 : decode cX0_yieldPoints 31 = .ok (.ldc 40, 2) := by decide +kernel
theorem dX0_yieldPoints_33 : decode cX0_yieldPoints 33 = .ok (.if_icmp .ge 53, 3) := by decide +kernel
theorem dX0_yieldPoints_36 : decode cX0_yieldPoints 36 = .ok (.iload 8, 2) := by decide +kernel
theorem dX0_yieldPoints_38 : decode cX0_yieldPoints 38 = .ok (.iload 9, 2) := by decide +kernel
theorem dX0_yieldPoints_40 : decode cX0_yieldPoints 40 = .ok (.if_icmp .ge 46, 3) := by decide +kernel
theorem dX0_yieldPoints_43 : decode cX0_yieldPoints 43 = .ok (.iload 8, 2) := by decide +kernel
theorem dX0_yieldPoints_45 : decode cX0_yieldPoints 45 = .ok (.iload 9, 2) := by decide +kernel
theorem dX0_yieldPoints_47 : decode cX0_yieldPoints 47 = .ok (.iadd, 1) := by decide +kernel
theorem dX0_yieldPoints_48 : decode cX0_yieldPoints 48 = .ok (.iconst 2, 1) := by decide +kernel
theorem dX0_yieldPoints_49 : decode cX0_yieldPoints 49 = .ok (.idiv, 1) := by decide +kernel
theorem dX0_yieldPoints_5 : decode cX0_yieldPoints 5 = .ok (.sipush 20000, 3) := by decide +kernel
theorem dX0_yieldPoints_50 : decode cX0_yieldPoints 50 = .ok (.istore 11, 2) := by decide +kernel
theorem dX0_yieldPoints_52 : decode cX0_yieldPoints 52 = .ok (.aload_n 0, 1) := by decide +kernel
theorem dX0_yieldPoints_53 : decode cX0_yieldPoints 53 = .ok (.lload_n 1, 1) := by decide +kernel
theorem dX0_yieldPoints_54 : decode cX0_yieldPoints 54 = .ok (.lload_n 3, 1) := by decide +kernel
theorem dX0_yieldPoints_55 : decode cX0_yieldPoints 55 = .ok (.iload 5, 2) := by decide +kernel
theorem dX0_yieldPoints_57 : decode cX0_yieldPoints 57 = .ok (.iload 11, 2) := by decide +kernel
theorem dX0_yieldPoints_59 : decode cX0_yieldPoints 59 = .ok (.lload 6, 2) := by decide +kernel
theorem dX0_yieldPoints_61 : decode cX0_yieldPoints 61 = .ok (.invokevirtual 36, 3) := by decide +kernel
theorem dX0_yieldPoints_64 : decode cX0_yieldPoints 64 = .ok (.ifCond .eq 10, 3) := by decide +kernel
theorem dX0_yieldPoints_67 : decode cX0_yieldPoints 67 = .ok (.iload 11, 2) := by decide +kernel
theorem dX0_yieldPoints_69 : decode cX0_yieldPoints 69 = .ok (.istore 9, 2) := by decide +kernel
theorem dX0_yieldPoints_71 : decode cX0_yieldPoints 71 = .ok (.goto 9, 3) := by decide +kernel
theorem dX0_yieldPoints_74 : decode cX0_yieldPoints 74 = .ok (.iload 11, 2) := by decide +kernel
theorem dX0_yieldPoints_76 : decode cX0_yieldPoints 76 = .ok (.iconst 1, 1) := by decide +kernel
theorem dX0_yieldPoints_77 : decode cX0_yieldPoints 77 = .ok (.iadd, 1) := by decide +kernel
theorem dX0_yieldPoints_78 : decode cX0_yieldPoints 78 = .ok (.istore 8, 2) := by decide +kernel
theorem dX0_yieldPoints_8 : decode cX0_yieldPoints 8 = .ok (.lload 6, 2) := by decide +kernel
theorem dX0_yieldPoints_80 : decode cX0_yieldPoints 80 = .ok (.iinc 10 1, 3) := by decide +kernel
theorem dX0_yieldPoints_83 : decode cX0_yieldPoints 83 = .ok (.goto (-54), 3) := by decide +kernel
theorem dX0_yieldPoints_86 : decode cX0_yieldPoints 86 = .ok (.iload 8, 2) := by decide +kernel
theorem dX0_yieldPoints_88 : decode cX0_yieldPoints 88 = .ok (.ireturn, 1) := by decide +kernel
set_option maxRecDepth 20000 in
theorem ggX0_carry_X1_begin : GoodIn wsX0_carry wsX1_begin := goodIn_r _ [6, 7, 8, 9, 5, 10, 11, 12, 13, 14, 15, 16, 17, 18, 19, 20, 21, 22, 23, 24, 25, 26, 27, 28, 29, 30, 31, 32, 33, 34, 35, 36, 37, 76, 77, 78, 79, 80, 81, 82, 83, 84] (by decide +kernel) (by decide +kernel)
set_option maxRecDepth 20000 in
theorem gX0_carry_X1_begin : GoodIn wsX0_carry (wsV RX0 47 RX1 yX1_begin wsX1_begin) := goodIn_app (goodIn_of _ (by decide +kernel)) ggX0_carry_X1_begin
set_option maxRecDepth 20000 in
theorem ggX0_carry_X1_next : GoodIn wsX0_carry wsX1_next := goodIn_r _ [41, 24, 21, 23, 20, 22, 42, 43, 44, 28, 45, 34, 35, 36, 37, 46, 47, 48, 49, 50, 51, 52, 53, 54, 55, 56, 57, 58, 59, 60, 61, 62, 14, 63, 64, 65, 66, 67, 30, 31, 32, 33, 68, 69, 70, 71, 72, 73, 74, 76, 77, 78, 79, 80, 81, 82, 83, 84] (by decide +kernel) (by decide +kernel)
set_option maxRecDepth 20000 in
theorem gX0_carry_X1_next : GoodIn wsX0_carry (wsV RX0 51 RX1 yX1_next wsX1_next) := goodIn_app (goodIn_of _ (by decide +kernel)) ggX0_carry_X1_next
set_option maxRecDepth 20000 in
theorem ggX0_init_X1_init : GoodIn wsX0_init wsX1_init := goodIn_r _ [9, 10, 2, 3, 11, 12, 13, 14, 15, 16, 17, 18, 19, 20, 21, 22, 23, 24, 25, 26, 34, 35, 36, 27, 28, 29, 30, 31, 32] (by decide +kernel) (by decide +kernel)
set_option maxRecDepth 20000 in
theorem gX0_init_X1_init_n11 : GoodIn wsX0_init (wsX1_init) := ggX0_init_X1_init
set_option maxRecDepth 20000 in
theorem ggX0_isWorthAtMost_X0_carry : GoodIn wsX0_isWorthAtMost wsX0_carry := goodIn_r _ [7, 1, 8, 9, 10, 11, 12, 13, 14, 15, 16, 17, 18, 19, 20, 21, 22, 23, 24, 25, 26, 27, 28, 29, 30, 31, 32, 33, 34, 35, 36, 37, 38, 39, 40, 41, 42, 43, 44, 45, 46, 47, 48, 49, 50, 51, 52, 53, 54, 55, 56, 57, 58, 59, 60, 61, 62, 63, 64, 65, 66, 67, 68, 69, 70, 71, 72, 73, 74, 75, 76, 77, 78, 79, 80, 99, 100, 101, 102, 103, 104, 105, 106, 107, 108] (by decide +kernel) (by decide +kernel)
set_option maxRecDepth 20000 in
theorem gX0_isWorthAtMost_X0_carry : GoodIn wsX0_isWorthAtMost (wsV RX0 18 RX0 yX0_carry wsX0_carry) := goodIn_app (goodIn_of _ (by decide +kernel)) ggX0_isWorthAtMost_X0_carry
set_option maxRecDepth 20000 in
theorem ggX0_isWorthAtMost_X1_upPower : GoodIn wsX0_isWorthAtMost wsX1_upPower := goodIn_r _ [84, 85, 26, 31, 32, 33, 34, 35, 36, 37, 38, 39, 40, 41, 42, 43, 86, 87, 88, 89, 90, 49, 50, 51, 52, 53, 54, 55, 56, 57, 58, 59, 60, 61, 62, 63, 64, 65, 66, 67, 68, 20, 69, 70, 71, 72, 73, 100, 101, 102, 103, 104, 105, 106, 107, 108] (by decide +kernel) (by decide +kernel)
set_option maxRecDepth 20000 in
theorem gX0_isWorthAtMost_X1_upPower : GoodIn wsX0_isWorthAtMost (wsV RX0 26 RX1 yX1_upPower wsX1_upPower) := goodIn_app (goodIn_of _ (by decide +kernel)) ggX0_isWorthAtMost_X1_upPower
set_option maxRecDepth 20000 in
theorem ggX0_isWorthAtMost_X8_isAtLeast : GoodIn wsX0_isWorthAtMost wsX8_isAtLeast := goodIn_r _ [94, 40, 95, 96, 97, 34, 98, 41, 43, 42, 106, 107, 108] (by decide +kernel) (by decide +kernel)
set_option maxRecDepth 20000 in
theorem gX0_isWorthAtMost_X8_isAtLeast : GoodIn wsX0_isWorthAtMost (wsV RX0 41 RX8 yX8_isAtLeast wsX8_isAtLeast) := goodIn_app (goodIn_of _ (by decide +kernel)) ggX0_isWorthAtMost_X8_isAtLeast
set_option maxRecDepth 20000 in
theorem ggX0_worthNow_X0_carry : GoodIn wsX0_worthNow wsX0_carry := goodIn_r _ [7, 1, 8, 9, 10, 11, 12, 13, 14, 15, 16, 17, 18, 19, 20, 21, 22, 23, 24, 25, 26, 27, 28, 29, 30, 31, 32, 33, 34, 35, 36, 37, 38, 39, 40, 41, 42, 43, 44, 45, 46, 47, 48, 49, 50, 51, 52, 53, 54, 55, 56, 57, 58, 59, 60, 61, 62, 63, 64, 65, 66, 67, 68, 69, 70, 71, 72, 73, 74, 75, 76, 77, 78, 79, 80, 140, 141, 142, 143, 144, 145, 146, 147, 148, 149] (by decide +kernel) (by decide +kernel)
set_option maxRecDepth 20000 in
theorem gX0_worthNow_X0_carry : GoodIn wsX0_worthNow (wsV RX0 18 RX0 yX0_carry wsX0_carry) := goodIn_app (goodIn_of _ (by decide +kernel)) ggX0_worthNow_X0_carry
set_option maxRecDepth 20000 in
theorem ggX0_worthNow_X1_upPower : GoodIn wsX0_worthNow wsX1_upPower := goodIn_r _ [84, 85, 26, 31, 32, 33, 34, 35, 36, 37, 38, 39, 40, 41, 42, 43, 86, 87, 88, 89, 90, 49, 50, 51, 52, 53, 54, 55, 56, 57, 58, 59, 60, 61, 62, 63, 64, 65, 66, 67, 68, 20, 69, 70, 71, 72, 73, 141, 142, 143, 144, 145, 146, 147, 148, 149] (by decide +kernel) (by decide +kernel)
set_option maxRecDepth 20000 in
theorem gX0_worthNow_X1_upPower : GoodIn wsX0_worthNow (wsV RX0 26 RX1 yX1_upPower wsX1_upPower) := goodIn_app (goodIn_of _ (by decide +kernel)) ggX0_worthNow_X1_upPower
set_option maxRecDepth 20000 in
theorem ggX0_worthNow_X4_ratio_ : GoodIn wsX0_worthNow wsX4_ratio_ := goodIn_ca (goodIn_r _ [95, 96, 97, 98, 99, 100, 34, 101, 43, 40, 102, 49, 50, 51, 41, 42, 52, 53, 54, 55, 56, 57, 58, 59, 60, 61, 62, 63, 64, 65, 66, 67, 68, 20, 69, 70, 71, 72, 73, 36, 37, 38, 39, 103, 104, 105, 106, 107, 108, 19, 21, 109, 110, 111, 112, 113, 114, 115, 116, 90, 117, 118, 119, 120, 121, 75, 76, 77, 78, 79, 80, 122, 123, 124, 94, 125, 126, 127, 128, 129, 130, 131, 132, 133, 134, 135, 136, 137, 138, 139, 147, 148, 149, 150] (by decide +kernel) (by decide +kernel)) (goodIn_sub (fun _ h => List.mem_cons_of_mem _ (List.mem_append_right _ h)) (by decide +kernel))
set_option maxRecDepth 20000 in
theorem gX0_worthNow_X4_ratio_ : GoodIn wsX0_worthNow (wsV RX0 30 RX4 yX4_ratio_ wsX4_ratio_) := goodIn_app (goodIn_of _ (by decide +kernel)) ggX0_worthNow_X4_ratio_
set_option maxRecDepth 20000 in
theorem ggX0_yieldPoints_X0_isWorthAtMost : GoodIn wsX0_yieldPoints wsX0_isWorthAtMost := goodIn_r _ [6, 7, 8, 9, 10, 11, 5, 12, 13, 14, 15, 16, 17, 18, 19, 20, 21, 22, 23, 24, 25, 26, 27, 28, 29, 30, 31, 32, 33, 34, 35, 36, 37, 38, 39, 40, 41, 42, 43, 44, 45, 46, 47, 48, 49, 50, 51, 52, 53, 54, 55, 56, 57, 58, 59, 60, 61, 62, 63, 64, 65, 66, 67, 68, 69, 70, 71, 72, 73, 74, 75, 76, 77, 78, 79, 80, 81, 82, 83, 84, 85, 86, 87, 88, 89, 90, 91, 92, 93, 94, 95, 96, 97, 98, 99, 100, 101, 102, 103, 104, 105, 106, 107, 108, 109, 110, 111, 112, 113] (by decide +kernel) (by decide +kernel)
set_option maxRecDepth 20000 in
theorem gX0_yieldPoints_X0_isWorthAtMost : GoodIn wsX0_yieldPoints (wsV RX0 36 RX0 yX0_isWorthAtMost wsX0_isWorthAtMost) := goodIn_app (goodIn_of _ (by decide +kernel)) ggX0_yieldPoints_X0_isWorthAtMost
