-- printed rows that the walks use
theorem dX1_beginBackwards_0 : decode cX1_beginBackwards 0 = .ok (.ldc2_w 35, 3) := by decide +kernel
theorem dX1_beginBackwards_10 : decode cX1_beginBackwards 10 = .ok (.aload_n 0, 1) := by decide +kernel
theorem dX1_beginBackwards_11 : decode cX1_beginBackwards 11 = .ok (.ldc2_w 35, 3) := by decide +kernel
theorem dX1_beginBackwards_14 : decode cX1_beginBackwards 14 = .ok (.lload 4, 2) := by decide +kernel
theorem dX1_beginBackwards_16 : decode cX1_beginBackwards 16 = .ok (.ldiv, 1) := by decide +kernel
theorem dX1_beginBackwards_17 : decode cX1_beginBackwards 17 = .ok (.ldc2_w 35, 3) := by decide +kernel
theorem dX1_beginBackwards_20 : decode cX1_beginBackwards 20 = .ok (.iload_n 1, 1) := by decide +kernel
theorem dX1_beginBackwards_21 : decode cX1_beginBackwards 21 = .ok (.i2l, 1) := by decide +kernel
theorem dX1_beginBackwards_22 : decode cX1_beginBackwards 22 = .ok (.ladd, 1) := by decide +kernel
theorem dX1_beginBackwards_23 : decode cX1_beginBackwards 23 = .ok (.lload 4, 2) := by decide +kernel
theorem dX1_beginBackwards_25 : decode cX1_beginBackwards 25 = .ok (.ldiv, 1) := by decide +kernel
theorem dX1_beginBackwards_26 : decode cX1_beginBackwards 26 = .ok (.lload_n 2, 1) := by decide +kernel
theorem dX1_beginBackwards_27 : decode cX1_beginBackwards 27 = .ok (.invokevirtual 41, 3) := by decide +kernel
theorem dX1_beginBackwards_3 : decode cX1_beginBackwards 3 = .ok (.iload_n 1, 1) := by decide +kernel
theorem dX1_beginBackwards_30 : decode cX1_beginBackwards 30 = .ok (.return_, 1) := by decide +kernel
theorem dX1_beginBackwards_4 : decode cX1_beginBackwards 4 = .ok (.i2l, 1) := by decide +kernel
theorem dX1_beginBackwards_5 : decode cX1_beginBackwards 5 = .ok (.invokestatic 37, 3) := by decide +kernel
theorem dX1_beginBackwards_8 : decode cX1_beginBackwards 8 = .ok (.lstore 4, 2) := by decide +kernel
theorem dX1_begin_0 : decode cX1_begin 0 = .ok (.ldc2_w 35, 3) := by decide +kernel
theorem dX1_begin_10 : decode cX1_begin 10 = .ok (.aload_n 0, 1) := by decide +kernel
theorem dX1_begin_11 : decode cX1_begin 11 = .ok (.ldc2_w 35, 3) := by decide +kernel
theorem dX1_begin_14 : decode cX1_begin 14 = .ok (.iload_n 1, 1) := by decide +kernel
theorem dX1_begin_15 : decode cX1_begin 15 = .ok (.i2l, 1) := by decide +kernel
theorem dX1_begin_16 : decode cX1_begin 16 = .ok (.ladd, 1) := by decide +kernel
theorem dX1_begin_17 : decode cX1_begin 17 = .ok (.lload 4, 2) := by decide +kernel
theorem dX1_begin_19 : decode cX1_begin 19 = .ok (.ldiv, 1) := by decide +kernel
theorem dX1_begin_20 : decode cX1_begin 20 = .ok (.ldc2_w 35, 3) := by decide +kernel
theorem dX1_begin_23 : decode cX1_begin 23 = .ok (.lload 4, 2) := by decide +kernel
theorem dX1_begin_25 : decode cX1_begin 25 = .ok (.ldiv, 1) := by decide +kernel
theorem dX1_begin_26 : decode cX1_begin 26 = .ok (.lload_n 2, 1) := by decide +kernel
theorem dX1_begin_27 : decode cX1_begin 27 = .ok (.invokevirtual 41, 3) := by decide +kernel
theorem dX1_begin_3 : decode cX1_begin 3 = .ok (.iload_n 1, 1) := by decide +kernel
theorem dX1_begin_30 : decode cX1_begin 30 = .ok (.return_, 1) := by decide +kernel
theorem dX1_begin_4 : decode cX1_begin 4 = .ok (.i2l, 1) := by decide +kernel
theorem dX1_begin_5 : decode cX1_begin 5 = .ok (.invokestatic 37, 3) := by decide +kernel
theorem dX1_begin_8 : decode cX1_begin 8 = .ok (.lstore 4, 2) := by decide +kernel
theorem dX1_commonDivisor_0 : decode cX1_commonDivisor 0 = .ok (.lload_n 0, 1) := by decide +kernel
theorem dX1_commonDivisor_1 : decode cX1_commonDivisor 1 = .ok (.lstore 4, 2) := by decide +kernel
theorem dX1_commonDivisor_11 : decode cX1_commonDivisor 11 = .ok (.ldc 60, 2) := by decide +kernel
theorem dX1_commonDivisor_13 : decode cX1_commonDivisor 13 = .ok (.if_icmp .ge 31, 3) := by decide +kernel
theorem dX1_commonDivisor_16 : decode cX1_commonDivisor 16 = .ok (.lload 6, 2) := by decide +kernel
theorem dX1_commonDivisor_18 : decode cX1_commonDivisor 18 = .ok (.lconst 0, 1) := by decide +kernel
theorem dX1_commonDivisor_19 : decode cX1_commonDivisor 19 = .ok (.lcmp, 1) := by decide +kernel
theorem dX1_commonDivisor_20 : decode cX1_commonDivisor 20 = .ok (.ifCond .eq 24, 3) := by decide +kernel
theorem dX1_commonDivisor_23 : decode cX1_commonDivisor 23 = .ok (.lload 4, 2) := by decide +kernel
theorem dX1_commonDivisor_25 : decode cX1_commonDivisor 25 = .ok (.lload 6, 2) := by decide +kernel
theorem dX1_commonDivisor_27 : decode cX1_commonDivisor 27 = .ok (.lrem, 1) := by decide +kernel
theorem dX1_commonDivisor_28 : decode cX1_commonDivisor 28 = .ok (.lstore 9, 2) := by decide +kernel
theorem dX1_commonDivisor_3 : decode cX1_commonDivisor 3 = .ok (.lload_n 2, 1) := by decide +kernel
theorem dX1_commonDivisor_30 : decode cX1_commonDivisor 30 = .ok (.lload 6, 2) := by decide +kernel
theorem dX1_commonDivisor_32 : decode cX1_commonDivisor 32 = .ok (.lstore 4, 2) := by decide +kernel
theorem dX1_commonDivisor_34 : decode cX1_commonDivisor 34 = .ok (.lload 9, 2) := by decide +kernel
theorem dX1_commonDivisor_36 : decode cX1_commonDivisor 36 = .ok (.lstore 6, 2) := by decide +kernel
theorem dX1_commonDivisor_38 : decode cX1_commonDivisor 38 = .ok (.iinc 8 1, 3) := by decide +kernel
theorem dX1_commonDivisor_4 : decode cX1_commonDivisor 4 = .ok (.lstore 6, 2) := by decide +kernel
theorem dX1_commonDivisor_41 : decode cX1_commonDivisor 41 = .ok (.goto (-32), 3) := by decide +kernel
theorem dX1_commonDivisor_44 : decode cX1_commonDivisor 44 = .ok (.lconst 1, 1) := by decide +kernel
theorem dX1_commonDivisor_45 : decode cX1_commonDivisor 45 = .ok (.lload 4, 2) := by decide +kernel
theorem dX1_commonDivisor_47 : decode cX1_commonDivisor 47 = .ok (.invokestatic 61, 3) := by decide +kernel
theorem dX1_commonDivisor_50 : decode cX1_commonDivisor 50 = .ok (.lreturn, 1) := by decide +kernel
theorem dX1_commonDivisor_6 : decode cX1_commonDivisor 6 = .ok (.iconst 0, 1) := by decide +kernel
theorem dX1_commonDivisor_7 : decode cX1_commonDivisor 7 = .ok (.istore 8, 2) := by decide +kernel
theorem dX1_commonDivisor_9 : decode cX1_commonDivisor 9 = .ok (.iload 8, 2) := by decide +kernel
theorem dX1_init_0 : decode cX1_init 0 = .ok (.aload_n 0, 1) := by decide +kernel
theorem dX1_init_1 : decode cX1_init 1 = .ok (.invokespecial 3, 3) := by decide +kernel
theorem dX1_init_12 : decode cX1_init 12 = .ok (.putfield 12, 3) := by decide +kernel
theorem dX1_init_15 : decode cX1_init 15 = .ok (.aload_n 0, 1) := by decide +kernel
theorem dX1_init_16 : decode cX1_init 16 = .ok (.new 9, 3) := by decide +kernel
theorem dX1_init_19 : decode cX1_init 19 = .ok (.dup, 1) := by decide +kernel
theorem dX1_init_20 : decode cX1_init 20 = .ok (.invokespecial 11, 3) := by decide +kernel
theorem dX1_init_23 : decode cX1_init 23 = .ok (.putfield 18, 3) := by decide +kernel
theorem dX1_init_26 : decode cX1_init 26 = .ok (.aload_n 0, 1) := by decide +kernel
theorem dX1_init_27 : decode cX1_init 27 = .ok (.new 9, 3) := by decide +kernel
theorem dX1_init_30 : decode cX1_init 30 = .ok (.dup, 1) := by decide +kernel
theorem dX1_init_31 : decode cX1_init 31 = .ok (.invokespecial 11, 3) := by decide +kernel
theorem dX1_init_34 : decode cX1_init 34 = .ok (.putfield 21, 3) := by decide +kernel
theorem dX1_init_37 : decode cX1_init 37 = .ok (.aload_n 0, 1) := by decide +kernel
theorem dX1_init_38 : decode cX1_init 38 = .ok (.lconst 1, 1) := by decide +kernel
theorem dX1_init_39 : decode cX1_init 39 = .ok (.putfield 24, 3) := by decide +kernel
theorem dX1_init_4 : decode cX1_init 4 = .ok (.aload_n 0, 1) := by decide +kernel
theorem dX1_init_42 : decode cX1_init 42 = .ok (.aload_n 0, 1) := by decide +kernel
theorem dX1_init_43 : decode cX1_init 43 = .ok (.lconst 1, 1) := by decide +kernel
theorem dX1_init_44 : decode cX1_init 44 = .ok (.putfield 28, 3) := by decide +kernel
theorem dX1_init_47 : decode cX1_init 47 = .ok (.aload_n 0, 1) := by decide +kernel
theorem dX1_init_48 : decode cX1_init 48 = .ok (.iconst 0, 1) := by decide +kernel
theorem dX1_init_49 : decode cX1_init 49 = .ok (.putfield 31, 3) := by decide +kernel
theorem dX1_init_5 : decode cX1_init 5 = .ok (.new 9, 3) := by decide +kernel
theorem dX1_init_52 : decode cX1_init 52 = .ok (.return_, 1) := by decide +kernel
theorem dX1_init_8 : decode cX1_init 8 = .ok (.dup, 1) := by decide +kernel
theorem dX1_init_9 : decode cX1_init 9 = .ok (.invokespecial 11, 3) := by decide +kernel
theorem dX1_next_0 : decode cX1_next 0 = .ok (.aload_n 0, 1) := by decide +kernel
theorem dX1_next_1 : decode cX1_next 1 = .ok (.getfield 18, 3) := by decide +kernel
theorem dX1_next_11 : decode cX1_next 11 = .ok (.aload_n 0, 1) := by decide +kernel
theorem dX1_next_12 : decode cX1_next 12 = .ok (.getfield 12, 3) := by decide +kernel
theorem dX1_next_15 : decode cX1_next 15 = .ok (.aload_n 0, 1) := by decide +kernel
theorem dX1_next_16 : decode cX1_next 16 = .ok (.getfield 24, 3) := by decide +kernel
theorem dX1_next_19 : decode cX1_next 19 = .ok (.aload_n 0, 1) := by decide +kernel
theorem dX1_next_20 : decode cX1_next 20 = .ok (.getfield 18, 3) := by decide +kernel
theorem dX1_next_23 : decode cX1_next 23 = .ok (.lload_n 1, 1) := by decide +kernel
theorem dX1_next_24 : decode cX1_next 24 = .ok (.iconst 0, 1) := by decide +kernel
theorem dX1_next_25 : decode cX1_next 25 = .ok (.invokevirtual 52, 3) := by decide +kernel
theorem dX1_next_28 : decode cX1_next 28 = .ok (.aload_n 0, 1) := by decide +kernel
theorem dX1_next_29 : decode cX1_next 29 = .ok (.dup, 1) := by decide +kernel
theorem dX1_next_30 : decode cX1_next 30 = .ok (.getfield 31, 3) := by decide +kernel
theorem dX1_next_33 : decode cX1_next 33 = .ok (.iconst 1, 1) := by decide +kernel
theorem dX1_next_34 : decode cX1_next 34 = .ok (.iadd, 1) := by decide +kernel
theorem dX1_next_35 : decode cX1_next 35 = .ok (.putfield 31, 3) := by decide +kernel
theorem dX1_next_38 : decode cX1_next 38 = .ok (.return_, 1) := by decide +kernel
theorem dX1_next_4 : decode cX1_next 4 = .ok (.aload_n 0, 1) := by decide +kernel
theorem dX1_next_5 : decode cX1_next 5 = .ok (.getfield 28, 3) := by decide +kernel
theorem dX1_next_8 : decode cX1_next 8 = .ok (.invokevirtual 49, 3) := by decide +kernel
theorem dX1_start_0 : decode cX1_start 0 = .ok (.aload_n 0, 1) := by decide +kernel
theorem dX1_start_1 : decode cX1_start 1 = .ok (.lload_n 1, 1) := by decide +kernel
theorem dX1_start_10 : decode cX1_start 10 = .ok (.aload_n 0, 1) := by decide +kernel
theorem dX1_start_11 : decode cX1_start 11 = .ok (.iconst 0, 1) := by decide +kernel
theorem dX1_start_12 : decode cX1_start 12 = .ok (.putfield 31, 3) := by decide +kernel
theorem dX1_start_15 : decode cX1_start 15 = .ok (.aload_n 0, 1) := by decide +kernel
theorem dX1_start_16 : decode cX1_start 16 = .ok (.getfield 12, 3) := by decide +kernel
theorem dX1_start_19 : decode cX1_start 19 = .ok (.lload 5, 2) := by decide +kernel
theorem dX1_start_2 : decode cX1_start 2 = .ok (.putfield 24, 3) := by decide +kernel
theorem dX1_start_21 : decode cX1_start 21 = .ok (.invokevirtual 45, 3) := by decide +kernel
theorem dX1_start_24 : decode cX1_start 24 = .ok (.aload_n 0, 1) := by decide +kernel
theorem dX1_start_25 : decode cX1_start 25 = .ok (.getfield 18, 3) := by decide +kernel
theorem dX1_start_28 : decode cX1_start 28 = .ok (.lconst 1, 1) := by decide +kernel
theorem dX1_start_29 : decode cX1_start 29 = .ok (.invokevirtual 45, 3) := by decide +kernel
theorem dX1_start_32 : decode cX1_start 32 = .ok (.return_, 1) := by decide +kernel
theorem dX1_start_5 : decode cX1_start 5 = .ok (.aload_n 0, 1) := by decide +kernel
theorem dX1_start_6 : decode cX1_start 6 = .ok (.lload_n 3, 1) := by decide +kernel
theorem dX1_start_7 : decode cX1_start 7 = .ok (.putfield 28, 3) := by decide +kernel
theorem dX1_upPower_0 : decode cX1_upPower 0 = .ok (.aload_n 0, 1) := by decide +kernel
theorem dX1_upPower_1 : decode cX1_upPower 1 = .ok (.getfield 21, 3) := by decide +kernel
theorem dX1_upPower_12 : decode cX1_upPower 12 = .ok (.aload_n 0, 1) := by decide +kernel
theorem dX1_upPower_13 : decode cX1_upPower 13 = .ok (.getfield 24, 3) := by decide +kernel
theorem dX1_upPower_16 : decode cX1_upPower 16 = .ok (.iload_n 3, 1) := by decide +kernel
theorem dX1_upPower_17 : decode cX1_upPower 17 = .ok (.invokevirtual 56, 3) := by decide +kernel
theorem dX1_upPower_20 : decode cX1_upPower 20 = .ok (.aload_n 0, 1) := by decide +kernel
theorem dX1_upPower_21 : decode cX1_upPower 21 = .ok (.getfield 21, 3) := by decide +kernel
theorem dX1_upPower_24 : decode cX1_upPower 24 = .ok (.areturn, 1) := by decide +kernel
theorem dX1_upPower_4 : decode cX1_upPower 4 = .ok (.lload_n 1, 1) := by decide +kernel
theorem dX1_upPower_5 : decode cX1_upPower 5 = .ok (.invokevirtual 45, 3) := by decide +kernel
theorem dX1_upPower_8 : decode cX1_upPower 8 = .ok (.aload_n 0, 1) := by decide +kernel
theorem dX1_upPower_9 : decode cX1_upPower 9 = .ok (.getfield 21, 3) := by decide +kernel
theorem dX8_init_0 : decode cX8_init 0 = .ok (.aload_n 0, 1) := by decide +kernel
theorem dX8_init_1 : decode cX8_init 1 = .ok (.invokespecial 5, 3) := by decide +kernel
theorem dX8_init_12 : decode cX8_init 12 = .ok (.aload_n 0, 1) := by decide +kernel
theorem dX8_init_13 : decode cX8_init 13 = .ok (.iconst 0, 1) := by decide +kernel
theorem dX8_init_14 : decode cX8_init 14 = .ok (.putfield 15, 3) := by decide +kernel
theorem dX8_init_17 : decode cX8_init 17 = .ok (.aload_n 0, 1) := by decide +kernel
theorem dX8_init_18 : decode cX8_init 18 = .ok (.lconst 0, 1) := by decide +kernel
theorem dX8_init_19 : decode cX8_init 19 = .ok (.putfield 19, 3) := by decide +kernel
theorem dX8_init_22 : decode cX8_init 22 = .ok (.return_, 1) := by decide +kernel
theorem dX8_init_4 : decode cX8_init 4 = .ok (.aload_n 0, 1) := by decide +kernel
theorem dX8_init_5 : decode cX8_init 5 = .ok (.bipush 40, 2) := by decide +kernel
theorem dX8_init_7 : decode cX8_init 7 = .ok (.newarray .long, 2) := by decide +kernel
theorem dX8_init_9 : decode cX8_init 9 = .ok (.putfield 11, 3) := by decide +kernel
set_option maxRecDepth 20000 in
theorem ggX1_beginBackwards_X1_commonDivisor : GoodIn wsX1_beginBackwards wsX1_commonDivisor := goodIn_r _ [5, 6, 7, 8, 9, 10] (by decide +kernel) (by decide +kernel)
set_option maxRecDepth 20000 in
theorem gX1_beginBackwards_X1_commonDivisor : GoodIn wsX1_beginBackwards (va_wsS RX1 37 yX1_commonDivisor wsX1_commonDivisor) := goodIn_app (goodIn_of _ (by decide +kernel)) ggX1_beginBackwards_X1_commonDivisor
set_option maxRecDepth 20000 in
theorem ggX1_beginBackwards_X1_start : GoodIn wsX1_beginBackwards wsX1_start := goodIn_r _ [14, 15, 16, 17, 18, 19, 20, 21, 22, 23, 24, 25, 26, 27, 28, 29, 30, 31, 32, 33, 34, 35, 36, 37, 38, 39, 40, 41] (by decide +kernel) (by decide +kernel)
set_option maxRecDepth 20000 in
theorem gX1_beginBackwards_X1_start : GoodIn wsX1_beginBackwards (wsV RX1 41 RX1 yX1_start wsX1_start) := goodIn_app (goodIn_of _ (by decide +kernel)) ggX1_beginBackwards_X1_start
set_option maxRecDepth 20000 in
theorem ggX1_begin_X1_commonDivisor : GoodIn wsX1_begin wsX1_commonDivisor := goodIn_r _ [5, 6, 7, 8, 9, 10] (by decide +kernel) (by decide +kernel)
set_option maxRecDepth 20000 in
theorem gX1_begin_X1_commonDivisor : GoodIn wsX1_begin (va_wsS RX1 37 yX1_commonDivisor wsX1_commonDivisor) := goodIn_app (goodIn_of _ (by decide +kernel)) ggX1_begin_X1_commonDivisor
set_option maxRecDepth 20000 in
theorem ggX1_begin_X1_start : GoodIn wsX1_begin wsX1_start := goodIn_r _ [14, 15, 16, 17, 18, 19, 20, 21, 22, 23, 24, 25, 26, 27, 28, 29, 30, 31, 32, 33, 34, 35, 36, 37, 38, 39, 40, 41] (by decide +kernel) (by decide +kernel)
set_option maxRecDepth 20000 in
theorem gX1_begin_X1_start : GoodIn wsX1_begin (wsV RX1 41 RX1 yX1_start wsX1_start) := goodIn_app (goodIn_of _ (by decide +kernel)) ggX1_begin_X1_start
set_option maxRecDepth 20000 in
theorem ggX1_init_X8_init : GoodIn wsX1_init wsX8_init := goodIn_r _ [14, 15, 2, 3, 16, 17, 18, 19, 20, 21, 22] (by decide +kernel) (by decide +kernel)
set_option maxRecDepth 20000 in
theorem gX1_init_X8_init_n11 : GoodIn wsX1_init (wsX8_init) := ggX1_init_X8_init
set_option maxRecDepth 20000 in
theorem ggX1_next_X8_combine : GoodIn wsX1_next wsX8_combine := goodIn_r _ [45, 11, 46, 47, 32, 48, 12, 14, 13, 15, 16, 17, 9, 18, 19, 20, 21, 22, 23, 24, 25, 26, 27, 28, 29, 30, 31, 33, 34, 35, 36, 37, 38, 39, 40, 41, 55, 56, 57] (by decide +kernel) (by decide +kernel)
set_option maxRecDepth 20000 in
theorem gX1_next_X8_combine : GoodIn wsX1_next (wsV RX1 52 RX8 yX8_combine wsX8_combine) := goodIn_app (goodIn_of _ (by decide +kernel)) ggX1_next_X8_combine
set_option maxRecDepth 20000 in
theorem ggX1_next_X8_times : GoodIn wsX1_next wsX8_times := goodIn_r _ [10, 11, 12, 13, 14, 15, 16, 17, 9, 18, 19, 20, 21, 22, 23, 24, 25, 26, 27, 28, 29, 30, 31, 32, 33, 34, 35, 36, 37, 38, 39, 40, 41, 55, 56, 57] (by decide +kernel) (by decide +kernel)
set_option maxRecDepth 20000 in
theorem gX1_next_X8_times : GoodIn wsX1_next (wsV RX1 49 RX8 yX8_times wsX8_times) := goodIn_app (goodIn_of _ (by decide +kernel)) ggX1_next_X8_times
set_option maxRecDepth 20000 in
theorem ggX1_start_X8_set : GoodIn wsX1_start wsX8_set := goodIn_r _ [10, 11, 12, 13, 9, 14, 15, 16, 17, 18, 25, 26, 27] (by decide +kernel) (by decide +kernel)
set_option maxRecDepth 20000 in
theorem gX1_start_X8_set : GoodIn wsX1_start (wsV RX1 45 RX8 yX8_set wsX8_set) := goodIn_app (goodIn_of _ (by decide +kernel)) ggX1_start_X8_set
set_option maxRecDepth 20000 in
theorem ggX1_upPower_X8_set : GoodIn wsX1_upPower wsX8_set := goodIn_r _ [7, 8, 9, 10, 6, 11, 12, 13, 14, 15, 53, 54, 55] (by decide +kernel) (by decide +kernel)
set_option maxRecDepth 20000 in
theorem gX1_upPower_X8_set : GoodIn wsX1_upPower (wsV RX1 45 RX8 yX8_set wsX8_set) := goodIn_app (goodIn_of _ (by decide +kernel)) ggX1_upPower_X8_set
set_option maxRecDepth 20000 in
theorem ggX1_upPower_X8_timesPower : GoodIn wsX1_upPower wsX8_timesPower := goodIn_r _ [19, 20, 21, 22, 6, 23, 12, 13, 14, 15, 24, 25, 26, 27, 28, 29, 30, 31, 32, 33, 34, 35, 36, 37, 38, 39, 40, 41, 42, 43, 44, 45, 46, 8, 9, 10, 11, 53, 54, 55] (by decide +kernel) (by decide +kernel)
set_option maxRecDepth 20000 in
theorem gX1_upPower_X8_timesPower : GoodIn wsX1_upPower (wsV RX1 56 RX8 yX8_timesPower wsX8_timesPower) := goodIn_app (goodIn_of _ (by decide +kernel)) ggX1_upPower_X8_timesPower
