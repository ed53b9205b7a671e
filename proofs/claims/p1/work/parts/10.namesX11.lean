-- printed rows of X11
theorem dX11_init_0 : decode cX11_init 0 = .ok (.aload_n 0, 1) := by decide +kernel
theorem dX11_init_1 : decode cX11_init 1 = .ok (.invokespecial 1, 3) := by decide +kernel
theorem dX11_init_4 : decode cX11_init 4 = .ok (.aload_n 2, 1) := by decide +kernel
theorem dX11_init_5 : decode cX11_init 5 = .ok (.arraylength, 1) := by decide +kernel
theorem dX11_init_6 : decode cX11_init 6 = .ok (.istore_n 3, 1) := by decide +kernel
theorem dX11_init_7 : decode cX11_init 7 = .ok (.iload_n 3, 1) := by decide +kernel
theorem dX11_init_8 : decode cX11_init 8 = .ok (.ifCond .le 17, 3) := by decide +kernel
theorem dX11_init_11 : decode cX11_init 11 = .ok (.aload_n 2, 1) := by decide +kernel
theorem dX11_init_12 : decode cX11_init 12 = .ok (.iload_n 3, 1) := by decide +kernel
theorem dX11_init_13 : decode cX11_init 13 = .ok (.iconst 1, 1) := by decide +kernel
theorem dX11_init_14 : decode cX11_init 14 = .ok (.isub, 1) := by decide +kernel
theorem dX11_init_15 : decode cX11_init 15 = .ok (.iaload, 1) := by decide +kernel
theorem dX11_init_16 : decode cX11_init 16 = .ok (.ifCond .ne 9, 3) := by decide +kernel
theorem dX11_init_19 : decode cX11_init 19 = .ok (.iinc 3 (-1), 3) := by decide +kernel
theorem dX11_init_22 : decode cX11_init 22 = .ok (.goto (-15), 3) := by decide +kernel
theorem dX11_init_25 : decode cX11_init 25 = .ok (.aload_n 0, 1) := by decide +kernel
theorem dX11_init_26 : decode cX11_init 26 = .ok (.iload_n 3, 1) := by decide +kernel
theorem dX11_init_27 : decode cX11_init 27 = .ok (.ifCond .ne 7, 3) := by decide +kernel
theorem dX11_init_30 : decode cX11_init 30 = .ok (.iconst 0, 1) := by decide +kernel
theorem dX11_init_31 : decode cX11_init 31 = .ok (.goto 4, 3) := by decide +kernel
theorem dX11_init_34 : decode cX11_init 34 = .ok (.iload_n 1, 1) := by decide +kernel
theorem dX11_init_35 : decode cX11_init 35 = .ok (.putfield 7, 3) := by decide +kernel
theorem dX11_init_38 : decode cX11_init 38 = .ok (.aload_n 0, 1) := by decide +kernel
theorem dX11_init_39 : decode cX11_init 39 = .ok (.iload_n 3, 1) := by decide +kernel
theorem dX11_init_40 : decode cX11_init 40 = .ok (.newarray .int, 2) := by decide +kernel
theorem dX11_init_42 : decode cX11_init 42 = .ok (.putfield 13, 3) := by decide +kernel
theorem dX11_init_45 : decode cX11_init 45 = .ok (.iconst 0, 1) := by decide +kernel
theorem dX11_init_46 : decode cX11_init 46 = .ok (.istore 4, 2) := by decide +kernel
theorem dX11_init_48 : decode cX11_init 48 = .ok (.iload 4, 2) := by decide +kernel
theorem dX11_init_50 : decode cX11_init 50 = .ok (.iload_n 3, 1) := by decide +kernel
theorem dX11_init_51 : decode cX11_init 51 = .ok (.if_icmp .ge 20, 3) := by decide +kernel
theorem dX11_init_54 : decode cX11_init 54 = .ok (.aload_n 0, 1) := by decide +kernel
theorem dX11_init_55 : decode cX11_init 55 = .ok (.getfield 13, 3) := by decide +kernel
theorem dX11_init_58 : decode cX11_init 58 = .ok (.iload 4, 2) := by decide +kernel
theorem dX11_init_60 : decode cX11_init 60 = .ok (.aload_n 2, 1) := by decide +kernel
theorem dX11_init_61 : decode cX11_init 61 = .ok (.iload 4, 2) := by decide +kernel
theorem dX11_init_63 : decode cX11_init 63 = .ok (.iaload, 1) := by decide +kernel
theorem dX11_init_64 : decode cX11_init 64 = .ok (.iastore, 1) := by decide +kernel
theorem dX11_init_65 : decode cX11_init 65 = .ok (.iinc 4 1, 3) := by decide +kernel
theorem dX11_init_68 : decode cX11_init 68 = .ok (.goto (-20), 3) := by decide +kernel
theorem dX11_init_71 : decode cX11_init 71 = .ok (.return_, 1) := by decide +kernel
set_option maxRecDepth 20000 in
theorem ggX11_of_X11_init : GoodIn wsX11_of wsX11_init := goodIn_r _ [12, 13, 14, 15, 16, 1, 17, 18, 19] (by decide +kernel) (by decide +kernel)
set_option maxRecDepth 20000 in
theorem gX11_of_X11_init : GoodIn wsX11_of (wsX11_init) := ggX11_of_X11_init
theorem dX11_of_0 : decode cX11_of 0 = .ok (.iconst 5, 1) := by decide +kernel
theorem dX11_of_1 : decode cX11_of 1 = .ok (.newarray .int, 2) := by decide +kernel
theorem dX11_of_3 : decode cX11_of 3 = .ok (.astore_n 2, 1) := by decide +kernel
theorem dX11_of_4 : decode cX11_of 4 = .ok (.lload_n 0, 1) := by decide +kernel
theorem dX11_of_5 : decode cX11_of 5 = .ok (.lstore_n 3, 1) := by decide +kernel
theorem dX11_of_6 : decode cX11_of 6 = .ok (.iconst 0, 1) := by decide +kernel
theorem dX11_of_7 : decode cX11_of 7 = .ok (.istore 5, 2) := by decide +kernel
theorem dX11_of_9 : decode cX11_of 9 = .ok (.iload 5, 2) := by decide +kernel
theorem dX11_of_11 : decode cX11_of 11 = .ok (.aload_n 2, 1) := by decide +kernel
theorem dX11_of_12 : decode cX11_of 12 = .ok (.arraylength, 1) := by decide +kernel
theorem dX11_of_13 : decode cX11_of 13 = .ok (.if_icmp .ge 28, 3) := by decide +kernel
theorem dX11_of_16 : decode cX11_of 16 = .ok (.aload_n 2, 1) := by decide +kernel
theorem dX11_of_17 : decode cX11_of 17 = .ok (.iload 5, 2) := by decide +kernel
theorem dX11_of_19 : decode cX11_of 19 = .ok (.lload_n 3, 1) := by decide +kernel
theorem dX11_of_20 : decode cX11_of 20 = .ok (.ldc2_w 17, 3) := by decide +kernel
theorem dX11_of_23 : decode cX11_of 23 = .ok (.lrem, 1) := by decide +kernel
theorem dX11_of_24 : decode cX11_of 24 = .ok (.invokestatic 19, 3) := by decide +kernel
theorem dX11_of_27 : decode cX11_of 27 = .ok (.l2i, 1) := by decide +kernel
theorem dX11_of_28 : decode cX11_of 28 = .ok (.iastore, 1) := by decide +kernel
theorem dX11_of_29 : decode cX11_of 29 = .ok (.lload_n 3, 1) := by decide +kernel
theorem dX11_of_30 : decode cX11_of 30 = .ok (.ldc2_w 17, 3) := by decide +kernel
theorem dX11_of_33 : decode cX11_of 33 = .ok (.ldiv, 1) := by decide +kernel
theorem dX11_of_34 : decode cX11_of 34 = .ok (.lstore_n 3, 1) := by decide +kernel
theorem dX11_of_35 : decode cX11_of 35 = .ok (.iinc 5 1, 3) := by decide +kernel
theorem dX11_of_38 : decode cX11_of 38 = .ok (.goto (-29), 3) := by decide +kernel
theorem dX11_of_41 : decode cX11_of 41 = .ok (.new 8, 3) := by decide +kernel
theorem dX11_of_44 : decode cX11_of 44 = .ok (.dup, 1) := by decide +kernel
theorem dX11_of_45 : decode cX11_of 45 = .ok (.lload_n 0, 1) := by decide +kernel
theorem dX11_of_46 : decode cX11_of 46 = .ok (.lconst 0, 1) := by decide +kernel
theorem dX11_of_47 : decode cX11_of 47 = .ok (.lcmp, 1) := by decide +kernel
theorem dX11_of_48 : decode cX11_of 48 = .ok (.ifCond .ge 7, 3) := by decide +kernel
theorem dX11_of_51 : decode cX11_of 51 = .ok (.iconst (-1), 1) := by decide +kernel
theorem dX11_of_52 : decode cX11_of 52 = .ok (.goto 4, 3) := by decide +kernel
theorem dX11_of_55 : decode cX11_of 55 = .ok (.iconst 1, 1) := by decide +kernel
theorem dX11_of_56 : decode cX11_of 56 = .ok (.aload_n 2, 1) := by decide +kernel
theorem dX11_of_57 : decode cX11_of 57 = .ok (.invokespecial 25, 3) := by decide +kernel
theorem dX11_of_60 : decode cX11_of 60 = .ok (.areturn, 1) := by decide +kernel
theorem dX11_isNothing_0 : decode cX11_isNothing 0 = .ok (.aload_n 0, 1) := by decide +kernel
theorem dX11_isNothing_1 : decode cX11_isNothing 1 = .ok (.getfield 7, 3) := by decide +kernel
theorem dX11_isNothing_4 : decode cX11_isNothing 4 = .ok (.ifCond .ne 7, 3) := by decide +kernel
theorem dX11_isNothing_7 : decode cX11_isNothing 7 = .ok (.iconst 1, 1) := by decide +kernel
theorem dX11_isNothing_8 : decode cX11_isNothing 8 = .ok (.goto 4, 3) := by decide +kernel
theorem dX11_isNothing_11 : decode cX11_isNothing 11 = .ok (.iconst 0, 1) := by decide +kernel
theorem dX11_isNothing_12 : decode cX11_isNothing 12 = .ok (.ireturn, 1) := by decide +kernel
set_option maxRecDepth 20000 in
theorem ggX11_negated_X11_init : GoodIn wsX11_negated wsX11_init := goodIn_r _ [8, 9, 10, 11, 4, 12, 5, 13, 14] (by decide +kernel) (by decide +kernel)
set_option maxRecDepth 20000 in
theorem gX11_negated_X11_init : GoodIn wsX11_negated (wsX11_init) := ggX11_negated_X11_init
theorem dX11_negated_0 : decode cX11_negated 0 = .ok (.new 8, 3) := by decide +kernel
theorem dX11_negated_3 : decode cX11_negated 3 = .ok (.dup, 1) := by decide +kernel
theorem dX11_negated_4 : decode cX11_negated 4 = .ok (.aload_n 0, 1) := by decide +kernel
theorem dX11_negated_5 : decode cX11_negated 5 = .ok (.getfield 7, 3) := by decide +kernel
theorem dX11_negated_8 : decode cX11_negated 8 = .ok (.ineg, 1) := by decide +kernel
theorem dX11_negated_9 : decode cX11_negated 9 = .ok (.aload_n 0, 1) := by decide +kernel
theorem dX11_negated_10 : decode cX11_negated 10 = .ok (.getfield 13, 3) := by decide +kernel
theorem dX11_negated_13 : decode cX11_negated 13 = .ok (.invokespecial 25, 3) := by decide +kernel
theorem dX11_negated_16 : decode cX11_negated 16 = .ok (.areturn, 1) := by decide +kernel
set_option maxRecDepth 20000 in
theorem ggX11_size_X11_negated : GoodIn wsX11_size wsX11_negated := goodIn_r _ [6, 7, 8, 5, 1, 9, 10, 11, 12, 13, 14, 15, 16, 17, 18] (by decide +kernel) (by decide +kernel)
set_option maxRecDepth 20000 in
theorem gX11_size_X11_negated : GoodIn wsX11_size (wsV RX11 28 RX11 yX11_negated wsX11_negated) := goodIn_app (goodIn_of _ (by decide +kernel)) ggX11_size_X11_negated
theorem dX11_size_0 : decode cX11_size 0 = .ok (.aload_n 0, 1) := by decide +kernel
theorem dX11_size_1 : decode cX11_size 1 = .ok (.getfield 7, 3) := by decide +kernel
theorem dX11_size_4 : decode cX11_size 4 = .ok (.ifCond .ge 10, 3) := by decide +kernel
theorem dX11_size_7 : decode cX11_size 7 = .ok (.aload_n 0, 1) := by decide +kernel
theorem dX11_size_8 : decode cX11_size 8 = .ok (.invokevirtual 28, 3) := by decide +kernel
theorem dX11_size_11 : decode cX11_size 11 = .ok (.goto 4, 3) := by decide +kernel
theorem dX11_size_14 : decode cX11_size 14 = .ok (.aload_n 0, 1) := by decide +kernel
theorem dX11_size_15 : decode cX11_size 15 = .ok (.areturn, 1) := by decide +kernel
theorem dX11_limb_0 : decode cX11_limb 0 = .ok (.iload_n 1, 1) := by decide +kernel
theorem dX11_limb_1 : decode cX11_limb 1 = .ok (.aload_n 0, 1) := by decide +kernel
theorem dX11_limb_2 : decode cX11_limb 2 = .ok (.getfield 13, 3) := by decide +kernel
theorem dX11_limb_5 : decode cX11_limb 5 = .ok (.arraylength, 1) := by decide +kernel
theorem dX11_limb_6 : decode cX11_limb 6 = .ok (.if_icmp .ge 12, 3) := by decide +kernel
theorem dX11_limb_9 : decode cX11_limb 9 = .ok (.aload_n 0, 1) := by decide +kernel
theorem dX11_limb_10 : decode cX11_limb 10 = .ok (.getfield 13, 3) := by decide +kernel
theorem dX11_limb_13 : decode cX11_limb 13 = .ok (.iload_n 1, 1) := by decide +kernel
theorem dX11_limb_14 : decode cX11_limb 14 = .ok (.iaload, 1) := by decide +kernel
theorem dX11_limb_15 : decode cX11_limb 15 = .ok (.goto 4, 3) := by decide +kernel
theorem dX11_limb_18 : decode cX11_limb 18 = .ok (.iconst 0, 1) := by decide +kernel
theorem dX11_limb_19 : decode cX11_limb 19 = .ok (.ireturn, 1) := by decide +kernel
set_option maxRecDepth 20000 in
theorem ggX11_comparedSize_X11_limb : GoodIn wsX11_comparedSize wsX11_limb := goodIn_r _ [10, 1, 11, 12] (by decide +kernel) (by decide +kernel)
set_option maxRecDepth 20000 in
theorem gX11_comparedSize_X11_limb : GoodIn wsX11_comparedSize (wsV RX11 36 RX11 yX11_limb wsX11_limb) := goodIn_app (goodIn_of _ (by decide +kernel)) ggX11_comparedSize_X11_limb
theorem dX11_comparedSize_0 : decode cX11_comparedSize 0 = .ok (.aload_n 0, 1) := by decide +kernel
theorem dX11_comparedSize_1 : decode cX11_comparedSize 1 = .ok (.getfield 13, 3) := by decide +kernel
theorem dX11_comparedSize_4 : decode cX11_comparedSize 4 = .ok (.arraylength, 1) := by decide +kernel
theorem dX11_comparedSize_5 : decode cX11_comparedSize 5 = .ok (.aload_n 1, 1) := by decide +kernel
theorem dX11_comparedSize_6 : decode cX11_comparedSize 6 = .ok (.getfield 13, 3) := by decide +kernel
theorem dX11_comparedSize_9 : decode cX11_comparedSize 9 = .ok (.arraylength, 1) := by decide +kernel
theorem dX11_comparedSize_10 : decode cX11_comparedSize 10 = .ok (.invokestatic 32, 3) := by decide +kernel
theorem dX11_comparedSize_13 : decode cX11_comparedSize 13 = .ok (.iconst 1, 1) := by decide +kernel
theorem dX11_comparedSize_14 : decode cX11_comparedSize 14 = .ok (.isub, 1) := by decide +kernel
theorem dX11_comparedSize_15 : decode cX11_comparedSize 15 = .ok (.istore_n 2, 1) := by decide +kernel
theorem dX11_comparedSize_16 : decode cX11_comparedSize 16 = .ok (.iload_n 2, 1) := by decide +kernel
theorem dX11_comparedSize_17 : decode cX11_comparedSize 17 = .ok (.ifCond .lt 41, 3) := by decide +kernel
theorem dX11_comparedSize_20 : decode cX11_comparedSize 20 = .ok (.aload_n 0, 1) := by decide +kernel
theorem dX11_comparedSize_21 : decode cX11_comparedSize 21 = .ok (.iload_n 2, 1) := by decide +kernel
theorem dX11_comparedSize_22 : decode cX11_comparedSize 22 = .ok (.invokevirtual 36, 3) := by decide +kernel
theorem dX11_comparedSize_25 : decode cX11_comparedSize 25 = .ok (.aload_n 1, 1) := by decide +kernel
theorem dX11_comparedSize_26 : decode cX11_comparedSize 26 = .ok (.iload_n 2, 1) := by decide +kernel
theorem dX11_comparedSize_27 : decode cX11_comparedSize 27 = .ok (.invokevirtual 36, 3) := by decide +kernel
theorem dX11_comparedSize_30 : decode cX11_comparedSize 30 = .ok (.if_icmp .eq 22, 3) := by decide +kernel
theorem dX11_comparedSize_33 : decode cX11_comparedSize 33 = .ok (.aload_n 0, 1) := by decide +kernel
theorem dX11_comparedSize_34 : decode cX11_comparedSize 34 = .ok (.iload_n 2, 1) := by decide +kernel
theorem dX11_comparedSize_35 : decode cX11_comparedSize 35 = .ok (.invokevirtual 36, 3) := by decide +kernel
theorem dX11_comparedSize_38 : decode cX11_comparedSize 38 = .ok (.aload_n 1, 1) := by decide +kernel
theorem dX11_comparedSize_39 : decode cX11_comparedSize 39 = .ok (.iload_n 2, 1) := by decide +kernel
theorem dX11_comparedSize_40 : decode cX11_comparedSize 40 = .ok (.invokevirtual 36, 3) := by decide +kernel
theorem dX11_comparedSize_43 : decode cX11_comparedSize 43 = .ok (.if_icmp .ge 7, 3) := by decide +kernel
theorem dX11_comparedSize_46 : decode cX11_comparedSize 46 = .ok (.iconst (-1), 1) := by decide +kernel
theorem dX11_comparedSize_47 : decode cX11_comparedSize 47 = .ok (.goto 4, 3) := by decide +kernel
theorem dX11_comparedSize_50 : decode cX11_comparedSize 50 = .ok (.iconst 1, 1) := by decide +kernel
theorem dX11_comparedSize_51 : decode cX11_comparedSize 51 = .ok (.ireturn, 1) := by decide +kernel
theorem dX11_comparedSize_52 : decode cX11_comparedSize 52 = .ok (.iinc 2 (-1), 3) := by decide +kernel
theorem dX11_comparedSize_55 : decode cX11_comparedSize 55 = .ok (.goto (-39), 3) := by decide +kernel
theorem dX11_comparedSize_58 : decode cX11_comparedSize 58 = .ok (.iconst 0, 1) := by decide +kernel
theorem dX11_comparedSize_59 : decode cX11_comparedSize 59 = .ok (.ireturn, 1) := by decide +kernel
set_option maxRecDepth 20000 in
theorem ggX11_isSame_X11_comparedSize : GoodIn wsX11_isSame wsX11_comparedSize := goodIn_r _ [6, 7, 8, 9, 10, 11, 12, 13, 14, 5, 15, 16, 17] (by decide +kernel) (by decide +kernel)
set_option maxRecDepth 20000 in
theorem gX11_isSame_X11_comparedSize : GoodIn wsX11_isSame (wsV RX11 40 RX11 yX11_comparedSize wsX11_comparedSize) := goodIn_app (goodIn_of _ (by decide +kernel)) ggX11_isSame_X11_comparedSize
theorem dX11_isSame_0 : decode cX11_isSame 0 = .ok (.aload_n 0, 1) := by decide +kernel
theorem dX11_isSame_1 : decode cX11_isSame 1 = .ok (.getfield 7, 3) := by decide +kernel
theorem dX11_isSame_4 : decode cX11_isSame 4 = .ok (.aload_n 1, 1) := by decide +kernel
theorem dX11_isSame_5 : decode cX11_isSame 5 = .ok (.getfield 7, 3) := by decide +kernel
theorem dX11_isSame_8 : decode cX11_isSame 8 = .ok (.if_icmp .ne 15, 3) := by decide +kernel
theorem dX11_isSame_11 : decode cX11_isSame 11 = .ok (.aload_n 0, 1) := by decide +kernel
theorem dX11_isSame_12 : decode cX11_isSame 12 = .ok (.aload_n 1, 1) := by decide +kernel
theorem dX11_isSame_13 : decode cX11_isSame 13 = .ok (.invokevirtual 40, 3) := by decide +kernel
theorem dX11_isSame_16 : decode cX11_isSame 16 = .ok (.ifCond .ne 7, 3) := by decide +kernel
theorem dX11_isSame_19 : decode cX11_isSame 19 = .ok (.iconst 1, 1) := by decide +kernel
theorem dX11_isSame_20 : decode cX11_isSame 20 = .ok (.goto 4, 3) := by decide +kernel
theorem dX11_isSame_23 : decode cX11_isSame 23 = .ok (.iconst 0, 1) := by decide +kernel
theorem dX11_isSame_24 : decode cX11_isSame 24 = .ok (.ireturn, 1) := by decide +kernel
set_option maxRecDepth 20000 in
theorem ggX11_joined_X11_limb : GoodIn wsX11_joined wsX11_limb := goodIn_r _ [11, 1, 12, 13] (by decide +kernel) (by decide +kernel)
set_option maxRecDepth 20000 in
theorem gX11_joined_X11_limb : GoodIn wsX11_joined (wsV RX11 36 RX11 yX11_limb wsX11_limb) := goodIn_app (goodIn_of _ (by decide +kernel)) ggX11_joined_X11_limb
theorem dX11_joined_0 : decode cX11_joined 0 = .ok (.aload_n 0, 1) := by decide +kernel
theorem dX11_joined_1 : decode cX11_joined 1 = .ok (.getfield 13, 3) := by decide +kernel
theorem dX11_joined_4 : decode cX11_joined 4 = .ok (.arraylength, 1) := by decide +kernel
theorem dX11_joined_5 : decode cX11_joined 5 = .ok (.aload_n 1, 1) := by decide +kernel
theorem dX11_joined_6 : decode cX11_joined 6 = .ok (.getfield 13, 3) := by decide +kernel
theorem dX11_joined_9 : decode cX11_joined 9 = .ok (.arraylength, 1) := by decide +kernel
theorem dX11_joined_10 : decode cX11_joined 10 = .ok (.invokestatic 32, 3) := by decide +kernel
theorem dX11_joined_13 : decode cX11_joined 13 = .ok (.iconst 1, 1) := by decide +kernel
theorem dX11_joined_14 : decode cX11_joined 14 = .ok (.iadd, 1) := by decide +kernel
theorem dX11_joined_15 : decode cX11_joined 15 = .ok (.newarray .int, 2) := by decide +kernel
theorem dX11_joined_17 : decode cX11_joined 17 = .ok (.astore_n 3, 1) := by decide +kernel
theorem dX11_joined_18 : decode cX11_joined 18 = .ok (.iconst 0, 1) := by decide +kernel
theorem dX11_joined_19 : decode cX11_joined 19 = .ok (.istore 4, 2) := by decide +kernel
theorem dX11_joined_21 : decode cX11_joined 21 = .ok (.iconst 0, 1) := by decide +kernel
theorem dX11_joined_22 : decode cX11_joined 22 = .ok (.istore 5, 2) := by decide +kernel
theorem dX11_joined_24 : decode cX11_joined 24 = .ok (.iload 5, 2) := by decide +kernel
theorem dX11_joined_26 : decode cX11_joined 26 = .ok (.aload_n 3, 1) := by decide +kernel
theorem dX11_joined_27 : decode cX11_joined 27 = .ok (.arraylength, 1) := by decide +kernel
theorem dX11_joined_28 : decode cX11_joined 28 = .ok (.if_icmp .ge 71, 3) := by decide +kernel
theorem dX11_joined_31 : decode cX11_joined 31 = .ok (.aload_n 0, 1) := by decide +kernel
theorem dX11_joined_32 : decode cX11_joined 32 = .ok (.iload 5, 2) := by decide +kernel
theorem dX11_joined_34 : decode cX11_joined 34 = .ok (.invokevirtual 36, 3) := by decide +kernel
theorem dX11_joined_37 : decode cX11_joined 37 = .ok (.iload_n 2, 1) := by decide +kernel
theorem dX11_joined_38 : decode cX11_joined 38 = .ok (.ifCond .eq 12, 3) := by decide +kernel
theorem dX11_joined_41 : decode cX11_joined 41 = .ok (.aload_n 1, 1) := by decide +kernel
theorem dX11_joined_42 : decode cX11_joined 42 = .ok (.iload 5, 2) := by decide +kernel
theorem dX11_joined_44 : decode cX11_joined 44 = .ok (.invokevirtual 36, 3) := by decide +kernel
theorem dX11_joined_47 : decode cX11_joined 47 = .ok (.goto 10, 3) := by decide +kernel
theorem dX11_joined_50 : decode cX11_joined 50 = .ok (.aload_n 1, 1) := by decide +kernel
theorem dX11_joined_51 : decode cX11_joined 51 = .ok (.iload 5, 2) := by decide +kernel
theorem dX11_joined_53 : decode cX11_joined 53 = .ok (.invokevirtual 36, 3) := by decide +kernel
theorem dX11_joined_56 : decode cX11_joined 56 = .ok (.ineg, 1) := by decide +kernel
theorem dX11_joined_57 : decode cX11_joined 57 = .ok (.iadd, 1) := by decide +kernel
theorem dX11_joined_58 : decode cX11_joined 58 = .ok (.iload 4, 2) := by decide +kernel
theorem dX11_joined_60 : decode cX11_joined 60 = .ok (.iadd, 1) := by decide +kernel
theorem dX11_joined_61 : decode cX11_joined 61 = .ok (.istore 6, 2) := by decide +kernel
theorem dX11_joined_63 : decode cX11_joined 63 = .ok (.iload 6, 2) := by decide +kernel
theorem dX11_joined_65 : decode cX11_joined 65 = .ok (.ifCond .ge 7, 3) := by decide +kernel
theorem dX11_joined_68 : decode cX11_joined 68 = .ok (.iconst (-1), 1) := by decide +kernel
theorem dX11_joined_69 : decode cX11_joined 69 = .ok (.goto 9, 3) := by decide +kernel
theorem dX11_joined_72 : decode cX11_joined 72 = .ok (.iload 6, 2) := by decide +kernel
theorem dX11_joined_74 : decode cX11_joined 74 = .ok (.sipush 10000, 3) := by decide +kernel
theorem dX11_joined_77 : decode cX11_joined 77 = .ok (.idiv, 1) := by decide +kernel
theorem dX11_joined_78 : decode cX11_joined 78 = .ok (.istore 4, 2) := by decide +kernel
theorem dX11_joined_80 : decode cX11_joined 80 = .ok (.aload_n 3, 1) := by decide +kernel
theorem dX11_joined_81 : decode cX11_joined 81 = .ok (.iload 5, 2) := by decide +kernel
theorem dX11_joined_83 : decode cX11_joined 83 = .ok (.iload 6, 2) := by decide +kernel
theorem dX11_joined_85 : decode cX11_joined 85 = .ok (.iload 4, 2) := by decide +kernel
theorem dX11_joined_87 : decode cX11_joined 87 = .ok (.sipush 10000, 3) := by decide +kernel
theorem dX11_joined_90 : decode cX11_joined 90 = .ok (.imul, 1) := by decide +kernel
theorem dX11_joined_91 : decode cX11_joined 91 = .ok (.isub, 1) := by decide +kernel
theorem dX11_joined_92 : decode cX11_joined 92 = .ok (.iastore, 1) := by decide +kernel
theorem dX11_joined_93 : decode cX11_joined 93 = .ok (.iinc 5 1, 3) := by decide +kernel
theorem dX11_joined_96 : decode cX11_joined 96 = .ok (.goto (-72), 3) := by decide +kernel
theorem dX11_joined_99 : decode cX11_joined 99 = .ok (.aload_n 3, 1) := by decide +kernel
theorem dX11_joined_100 : decode cX11_joined 100 = .ok (.areturn, 1) := by decide +kernel
set_option maxRecDepth 20000 in
theorem ggX11_plus_X11_joined : GoodIn wsX11_plus wsX11_joined := goodIn_r _ [7, 8, 9, 10, 11, 12, 13, 14, 15, 16, 4, 17, 28, 29] (by decide +kernel) (by decide +kernel)
set_option maxRecDepth 20000 in
theorem gX11_plus_X11_joined : GoodIn wsX11_plus (va_wsS RX11 44 yX11_joined wsX11_joined) := goodIn_app (goodIn_of _ (by decide +kernel)) ggX11_plus_X11_joined
set_option maxRecDepth 20000 in
theorem ggX11_plus_X11_init : GoodIn wsX11_plus wsX11_init := goodIn_r _ [20, 21, 22, 23, 1, 13, 8, 28, 29] (by decide +kernel) (by decide +kernel)
set_option maxRecDepth 20000 in
theorem gX11_plus_X11_init : GoodIn wsX11_plus (wsX11_init) := ggX11_plus_X11_init
set_option maxRecDepth 20000 in
theorem ggX11_plus_X11_comparedSize : GoodIn wsX11_plus wsX11_comparedSize := goodIn_r _ [27, 8, 9, 10, 11, 12, 14, 15, 16, 4, 17, 28, 29] (by decide +kernel) (by decide +kernel)
set_option maxRecDepth 20000 in
theorem gX11_plus_X11_comparedSize : GoodIn wsX11_plus (wsV RX11 40 RX11 yX11_comparedSize wsX11_comparedSize) := goodIn_app (goodIn_of _ (by decide +kernel)) ggX11_plus_X11_comparedSize
theorem dX11_plus_0 : decode cX11_plus 0 = .ok (.aload_n 0, 1) := by decide +kernel
theorem dX11_plus_1 : decode cX11_plus 1 = .ok (.getfield 7, 3) := by decide +kernel
theorem dX11_plus_4 : decode cX11_plus 4 = .ok (.ifCond .eq 10, 3) := by decide +kernel
theorem dX11_plus_7 : decode cX11_plus 7 = .ok (.aload_n 1, 1) := by decide +kernel
theorem dX11_plus_8 : decode cX11_plus 8 = .ok (.getfield 7, 3) := by decide +kernel
theorem dX11_plus_11 : decode cX11_plus 11 = .ok (.ifCond .ne 16, 3) := by decide +kernel
theorem dX11_plus_14 : decode cX11_plus 14 = .ok (.aload_n 0, 1) := by decide +kernel
theorem dX11_plus_15 : decode cX11_plus 15 = .ok (.getfield 7, 3) := by decide +kernel
theorem dX11_plus_18 : decode cX11_plus 18 = .ok (.ifCond .ne 7, 3) := by decide +kernel
theorem dX11_plus_21 : decode cX11_plus 21 = .ok (.aload_n 1, 1) := by decide +kernel
theorem dX11_plus_22 : decode cX11_plus 22 = .ok (.goto 4, 3) := by decide +kernel
theorem dX11_plus_25 : decode cX11_plus 25 = .ok (.aload_n 0, 1) := by decide +kernel
theorem dX11_plus_26 : decode cX11_plus 26 = .ok (.areturn, 1) := by decide +kernel
theorem dX11_plus_27 : decode cX11_plus 27 = .ok (.aload_n 0, 1) := by decide +kernel
theorem dX11_plus_28 : decode cX11_plus 28 = .ok (.getfield 7, 3) := by decide +kernel
theorem dX11_plus_31 : decode cX11_plus 31 = .ok (.aload_n 1, 1) := by decide +kernel
theorem dX11_plus_32 : decode cX11_plus 32 = .ok (.getfield 7, 3) := by decide +kernel
theorem dX11_plus_35 : decode cX11_plus 35 = .ok (.if_icmp .ne 21, 3) := by decide +kernel
theorem dX11_plus_38 : decode cX11_plus 38 = .ok (.new 8, 3) := by decide +kernel
theorem dX11_plus_41 : decode cX11_plus 41 = .ok (.dup, 1) := by decide +kernel
theorem dX11_plus_42 : decode cX11_plus 42 = .ok (.aload_n 0, 1) := by decide +kernel
theorem dX11_plus_43 : decode cX11_plus 43 = .ok (.getfield 7, 3) := by decide +kernel
theorem dX11_plus_46 : decode cX11_plus 46 = .ok (.aload_n 0, 1) := by decide +kernel
theorem dX11_plus_47 : decode cX11_plus 47 = .ok (.aload_n 1, 1) := by decide +kernel
theorem dX11_plus_48 : decode cX11_plus 48 = .ok (.iconst 1, 1) := by decide +kernel
theorem dX11_plus_49 : decode cX11_plus 49 = .ok (.invokestatic 44, 3) := by decide +kernel
theorem dX11_plus_52 : decode cX11_plus 52 = .ok (.invokespecial 25, 3) := by decide +kernel
theorem dX11_plus_55 : decode cX11_plus 55 = .ok (.areturn, 1) := by decide +kernel
theorem dX11_plus_56 : decode cX11_plus 56 = .ok (.aload_n 0, 1) := by decide +kernel
theorem dX11_plus_57 : decode cX11_plus 57 = .ok (.aload_n 1, 1) := by decide +kernel
theorem dX11_plus_58 : decode cX11_plus 58 = .ok (.invokevirtual 40, 3) := by decide +kernel
theorem dX11_plus_61 : decode cX11_plus 61 = .ok (.ifCond .lt 23, 3) := by decide +kernel
theorem dX11_plus_64 : decode cX11_plus 64 = .ok (.new 8, 3) := by decide +kernel
theorem dX11_plus_67 : decode cX11_plus 67 = .ok (.dup, 1) := by decide +kernel
theorem dX11_plus_68 : decode cX11_plus 68 = .ok (.aload_n 0, 1) := by decide +kernel
theorem dX11_plus_69 : decode cX11_plus 69 = .ok (.getfield 7, 3) := by decide +kernel
theorem dX11_plus_72 : decode cX11_plus 72 = .ok (.aload_n 0, 1) := by decide +kernel
theorem dX11_plus_73 : decode cX11_plus 73 = .ok (.aload_n 1, 1) := by decide +kernel
theorem dX11_plus_74 : decode cX11_plus 74 = .ok (.iconst 0, 1) := by decide +kernel
theorem dX11_plus_75 : decode cX11_plus 75 = .ok (.invokestatic 44, 3) := by decide +kernel
theorem dX11_plus_78 : decode cX11_plus 78 = .ok (.invokespecial 25, 3) := by decide +kernel
theorem dX11_plus_81 : decode cX11_plus 81 = .ok (.goto 20, 3) := by decide +kernel
theorem dX11_plus_84 : decode cX11_plus 84 = .ok (.new 8, 3) := by decide +kernel
theorem dX11_plus_87 : decode cX11_plus 87 = .ok (.dup, 1) := by decide +kernel
theorem dX11_plus_88 : decode cX11_plus 88 = .ok (.aload_n 1, 1) := by decide +kernel
theorem dX11_plus_89 : decode cX11_plus 89 = .ok (.getfield 7, 3) := by decide +kernel
theorem dX11_plus_92 : decode cX11_plus 92 = .ok (.aload_n 1, 1) := by decide +kernel
theorem dX11_plus_93 : decode cX11_plus 93 = .ok (.aload_n 0, 1) := by decide +kernel
theorem dX11_plus_94 : decode cX11_plus 94 = .ok (.iconst 0, 1) := by decide +kernel
theorem dX11_plus_95 : decode cX11_plus 95 = .ok (.invokestatic 44, 3) := by decide +kernel
theorem dX11_plus_98 : decode cX11_plus 98 = .ok (.invokespecial 25, 3) := by decide +kernel
theorem dX11_plus_101 : decode cX11_plus 101 = .ok (.areturn, 1) := by decide +kernel
set_option maxRecDepth 20000 in
theorem ggX11_less_X11_negated : GoodIn wsX11_less wsX11_negated := goodIn_r _ [5, 6, 7, 4, 8, 9, 10, 11, 12, 13, 14, 15, 16, 36, 37] (by decide +kernel) (by decide +kernel)
set_option maxRecDepth 20000 in
theorem gX11_less_X11_negated : GoodIn wsX11_less (wsV RX11 28 RX11 yX11_negated wsX11_negated) := goodIn_app (goodIn_of _ (by decide +kernel)) ggX11_less_X11_negated
set_option maxRecDepth 20000 in
theorem ggX11_less_X11_plus : GoodIn wsX11_less wsX11_plus := goodIn_r _ [20, 8, 6, 7, 4, 21, 22, 23, 9, 24, 25, 26, 27, 16, 28, 29, 30, 31, 10, 11, 12, 13, 14, 15, 32, 33, 34, 35, 36, 37] (by decide +kernel) (by decide +kernel)
set_option maxRecDepth 20000 in
theorem gX11_less_X11_plus : GoodIn wsX11_less (wsV RX11 48 RX11 yX11_plus wsX11_plus) := goodIn_app (goodIn_of _ (by decide +kernel)) ggX11_less_X11_plus
theorem dX11_less_0 : decode cX11_less 0 = .ok (.aload_n 0, 1) := by decide +kernel
theorem dX11_less_1 : decode cX11_less 1 = .ok (.aload_n 1, 1) := by decide +kernel
theorem dX11_less_2 : decode cX11_less 2 = .ok (.invokevirtual 28, 3) := by decide +kernel
theorem dX11_less_5 : decode cX11_less 5 = .ok (.invokevirtual 48, 3) := by decide +kernel
theorem dX11_less_8 : decode cX11_less 8 = .ok (.areturn, 1) := by decide +kernel
set_option maxRecDepth 20000 in
theorem ggX11_times_X11_limb : GoodIn wsX11_times wsX11_limb := goodIn_r _ [10, 1, 17, 18] (by decide +kernel) (by decide +kernel)
set_option maxRecDepth 20000 in
theorem gX11_times_X11_limb : GoodIn wsX11_times (wsV RX11 36 RX11 yX11_limb wsX11_limb) := goodIn_app (goodIn_of _ (by decide +kernel)) ggX11_times_X11_limb
set_option maxRecDepth 20000 in
theorem ggX11_times_X11_init : GoodIn wsX11_times wsX11_init := goodIn_r _ [13, 14, 15, 16, 6, 2, 1, 17, 18] (by decide +kernel) (by decide +kernel)
set_option maxRecDepth 20000 in
theorem gX11_times_X11_init : GoodIn wsX11_times (wsX11_init) := ggX11_times_X11_init
theorem dX11_times_0 : decode cX11_times 0 = .ok (.aload_n 0, 1) := by decide +kernel
theorem dX11_times_1 : decode cX11_times 1 = .ok (.getfield 13, 3) := by decide +kernel
theorem dX11_times_4 : decode cX11_times 4 = .ok (.arraylength, 1) := by decide +kernel
theorem dX11_times_5 : decode cX11_times 5 = .ok (.aload_n 1, 1) := by decide +kernel
theorem dX11_times_6 : decode cX11_times 6 = .ok (.getfield 13, 3) := by decide +kernel
theorem dX11_times_9 : decode cX11_times 9 = .ok (.arraylength, 1) := by decide +kernel
theorem dX11_times_10 : decode cX11_times 10 = .ok (.iadd, 1) := by decide +kernel
theorem dX11_times_11 : decode cX11_times 11 = .ok (.iconst 1, 1) := by decide +kernel
theorem dX11_times_12 : decode cX11_times 12 = .ok (.iadd, 1) := by decide +kernel
theorem dX11_times_13 : decode cX11_times 13 = .ok (.newarray .int, 2) := by decide +kernel
theorem dX11_times_15 : decode cX11_times 15 = .ok (.astore_n 2, 1) := by decide +kernel
theorem dX11_times_16 : decode cX11_times 16 = .ok (.iconst 0, 1) := by decide +kernel
theorem dX11_times_17 : decode cX11_times 17 = .ok (.istore_n 3, 1) := by decide +kernel
theorem dX11_times_18 : decode cX11_times 18 = .ok (.iload_n 3, 1) := by decide +kernel
theorem dX11_times_19 : decode cX11_times 19 = .ok (.aload_n 0, 1) := by decide +kernel
theorem dX11_times_20 : decode cX11_times 20 = .ok (.getfield 13, 3) := by decide +kernel
theorem dX11_times_23 : decode cX11_times 23 = .ok (.arraylength, 1) := by decide +kernel
theorem dX11_times_24 : decode cX11_times 24 = .ok (.if_icmp .ge 76, 3) := by decide +kernel
theorem dX11_times_27 : decode cX11_times 27 = .ok (.iconst 0, 1) := by decide +kernel
theorem dX11_times_28 : decode cX11_times 28 = .ok (.istore 4, 2) := by decide +kernel
theorem dX11_times_30 : decode cX11_times 30 = .ok (.iconst 0, 1) := by decide +kernel
theorem dX11_times_31 : decode cX11_times 31 = .ok (.istore 5, 2) := by decide +kernel
theorem dX11_times_33 : decode cX11_times 33 = .ok (.iload 5, 2) := by decide +kernel
theorem dX11_times_35 : decode cX11_times 35 = .ok (.aload_n 1, 1) := by decide +kernel
theorem dX11_times_36 : decode cX11_times 36 = .ok (.getfield 13, 3) := by decide +kernel
theorem dX11_times_39 : decode cX11_times 39 = .ok (.arraylength, 1) := by decide +kernel
theorem dX11_times_40 : decode cX11_times 40 = .ok (.if_icmp .gt 54, 3) := by decide +kernel
theorem dX11_times_43 : decode cX11_times 43 = .ok (.aload_n 2, 1) := by decide +kernel
theorem dX11_times_44 : decode cX11_times 44 = .ok (.iload_n 3, 1) := by decide +kernel
theorem dX11_times_45 : decode cX11_times 45 = .ok (.iload 5, 2) := by decide +kernel
theorem dX11_times_47 : decode cX11_times 47 = .ok (.iadd, 1) := by decide +kernel
theorem dX11_times_48 : decode cX11_times 48 = .ok (.iaload, 1) := by decide +kernel
theorem dX11_times_49 : decode cX11_times 49 = .ok (.aload_n 0, 1) := by decide +kernel
theorem dX11_times_50 : decode cX11_times 50 = .ok (.getfield 13, 3) := by decide +kernel
theorem dX11_times_53 : decode cX11_times 53 = .ok (.iload_n 3, 1) := by decide +kernel
theorem dX11_times_54 : decode cX11_times 54 = .ok (.iaload, 1) := by decide +kernel
theorem dX11_times_55 : decode cX11_times 55 = .ok (.aload_n 1, 1) := by decide +kernel
theorem dX11_times_56 : decode cX11_times 56 = .ok (.iload 5, 2) := by decide +kernel
theorem dX11_times_58 : decode cX11_times 58 = .ok (.invokevirtual 36, 3) := by decide +kernel
theorem dX11_times_61 : decode cX11_times 61 = .ok (.imul, 1) := by decide +kernel
theorem dX11_times_62 : decode cX11_times 62 = .ok (.iadd, 1) := by decide +kernel
theorem dX11_times_63 : decode cX11_times 63 = .ok (.iload 4, 2) := by decide +kernel
theorem dX11_times_65 : decode cX11_times 65 = .ok (.iadd, 1) := by decide +kernel
theorem dX11_times_66 : decode cX11_times 66 = .ok (.istore 6, 2) := by decide +kernel
theorem dX11_times_68 : decode cX11_times 68 = .ok (.aload_n 2, 1) := by decide +kernel
theorem dX11_times_69 : decode cX11_times 69 = .ok (.iload_n 3, 1) := by decide +kernel
theorem dX11_times_70 : decode cX11_times 70 = .ok (.iload 5, 2) := by decide +kernel
theorem dX11_times_72 : decode cX11_times 72 = .ok (.iadd, 1) := by decide +kernel
theorem dX11_times_73 : decode cX11_times 73 = .ok (.iload 6, 2) := by decide +kernel
theorem dX11_times_75 : decode cX11_times 75 = .ok (.sipush 10000, 3) := by decide +kernel
theorem dX11_times_78 : decode cX11_times 78 = .ok (.irem, 1) := by decide +kernel
theorem dX11_times_79 : decode cX11_times 79 = .ok (.iastore, 1) := by decide +kernel
theorem dX11_times_80 : decode cX11_times 80 = .ok (.iload 6, 2) := by decide +kernel
theorem dX11_times_82 : decode cX11_times 82 = .ok (.sipush 10000, 3) := by decide +kernel
theorem dX11_times_85 : decode cX11_times 85 = .ok (.idiv, 1) := by decide +kernel
theorem dX11_times_86 : decode cX11_times 86 = .ok (.istore 4, 2) := by decide +kernel
theorem dX11_times_88 : decode cX11_times 88 = .ok (.iinc 5 1, 3) := by decide +kernel
theorem dX11_times_91 : decode cX11_times 91 = .ok (.goto (-58), 3) := by decide +kernel
theorem dX11_times_94 : decode cX11_times 94 = .ok (.iinc 3 1, 3) := by decide +kernel
theorem dX11_times_97 : decode cX11_times 97 = .ok (.goto (-79), 3) := by decide +kernel
theorem dX11_times_100 : decode cX11_times 100 = .ok (.new 8, 3) := by decide +kernel
theorem dX11_times_103 : decode cX11_times 103 = .ok (.dup, 1) := by decide +kernel
theorem dX11_times_104 : decode cX11_times 104 = .ok (.aload_n 0, 1) := by decide +kernel
theorem dX11_times_105 : decode cX11_times 105 = .ok (.getfield 7, 3) := by decide +kernel
theorem dX11_times_108 : decode cX11_times 108 = .ok (.aload_n 1, 1) := by decide +kernel
theorem dX11_times_109 : decode cX11_times 109 = .ok (.getfield 7, 3) := by decide +kernel
theorem dX11_times_112 : decode cX11_times 112 = .ok (.imul, 1) := by decide +kernel
theorem dX11_times_113 : decode cX11_times 113 = .ok (.aload_n 2, 1) := by decide +kernel
theorem dX11_times_114 : decode cX11_times 114 = .ok (.invokespecial 25, 3) := by decide +kernel
theorem dX11_times_117 : decode cX11_times 117 = .ok (.areturn, 1) := by decide +kernel
theorem dX11_rest_0 : decode cX11_rest 0 = .ok (.lconst 0, 1) := by decide +kernel
theorem dX11_rest_1 : decode cX11_rest 1 = .ok (.lstore_n 3, 1) := by decide +kernel
theorem dX11_rest_2 : decode cX11_rest 2 = .ok (.aload_n 0, 1) := by decide +kernel
theorem dX11_rest_3 : decode cX11_rest 3 = .ok (.getfield 13, 3) := by decide +kernel
theorem dX11_rest_6 : decode cX11_rest 6 = .ok (.arraylength, 1) := by decide +kernel
theorem dX11_rest_7 : decode cX11_rest 7 = .ok (.iconst 1, 1) := by decide +kernel
theorem dX11_rest_8 : decode cX11_rest 8 = .ok (.isub, 1) := by decide +kernel
theorem dX11_rest_9 : decode cX11_rest 9 = .ok (.istore 5, 2) := by decide +kernel
theorem dX11_rest_11 : decode cX11_rest 11 = .ok (.iload 5, 2) := by decide +kernel
theorem dX11_rest_13 : decode cX11_rest 13 = .ok (.ifCond .lt 26, 3) := by decide +kernel
theorem dX11_rest_16 : decode cX11_rest 16 = .ok (.lload_n 3, 1) := by decide +kernel
theorem dX11_rest_17 : decode cX11_rest 17 = .ok (.ldc2_w 17, 3) := by decide +kernel
theorem dX11_rest_20 : decode cX11_rest 20 = .ok (.lmul, 1) := by decide +kernel
theorem dX11_rest_21 : decode cX11_rest 21 = .ok (.aload_n 0, 1) := by decide +kernel
theorem dX11_rest_22 : decode cX11_rest 22 = .ok (.getfield 13, 3) := by decide +kernel
theorem dX11_rest_25 : decode cX11_rest 25 = .ok (.iload 5, 2) := by decide +kernel
theorem dX11_rest_27 : decode cX11_rest 27 = .ok (.iaload, 1) := by decide +kernel
theorem dX11_rest_28 : decode cX11_rest 28 = .ok (.i2l, 1) := by decide +kernel
theorem dX11_rest_29 : decode cX11_rest 29 = .ok (.ladd, 1) := by decide +kernel
theorem dX11_rest_30 : decode cX11_rest 30 = .ok (.lload_n 1, 1) := by decide +kernel
theorem dX11_rest_31 : decode cX11_rest 31 = .ok (.lrem, 1) := by decide +kernel
theorem dX11_rest_32 : decode cX11_rest 32 = .ok (.lstore_n 3, 1) := by decide +kernel
theorem dX11_rest_33 : decode cX11_rest 33 = .ok (.iinc 5 (-1), 3) := by decide +kernel
theorem dX11_rest_36 : decode cX11_rest 36 = .ok (.goto (-25), 3) := by decide +kernel
theorem dX11_rest_39 : decode cX11_rest 39 = .ok (.lload_n 3, 1) := by decide +kernel
theorem dX11_rest_40 : decode cX11_rest 40 = .ok (.lreturn, 1) := by decide +kernel
set_option maxRecDepth 20000 in
theorem ggX11_bySmall_X11_init : GoodIn wsX11_bySmall wsX11_init := goodIn_r _ [8, 9, 10, 11, 12, 2, 1, 13, 14] (by decide +kernel) (by decide +kernel)
set_option maxRecDepth 20000 in
theorem gX11_bySmall_X11_init : GoodIn wsX11_bySmall (wsX11_init) := ggX11_bySmall_X11_init
theorem dX11_bySmall_0 : decode cX11_bySmall 0 = .ok (.aload_n 0, 1) := by decide +kernel
theorem dX11_bySmall_1 : decode cX11_bySmall 1 = .ok (.getfield 13, 3) := by decide +kernel
theorem dX11_bySmall_4 : decode cX11_bySmall 4 = .ok (.arraylength, 1) := by decide +kernel
theorem dX11_bySmall_5 : decode cX11_bySmall 5 = .ok (.newarray .int, 2) := by decide +kernel
theorem dX11_bySmall_7 : decode cX11_bySmall 7 = .ok (.astore_n 2, 1) := by decide +kernel
theorem dX11_bySmall_8 : decode cX11_bySmall 8 = .ok (.iconst 0, 1) := by decide +kernel
theorem dX11_bySmall_9 : decode cX11_bySmall 9 = .ok (.istore_n 3, 1) := by decide +kernel
theorem dX11_bySmall_10 : decode cX11_bySmall 10 = .ok (.aload_n 0, 1) := by decide +kernel
theorem dX11_bySmall_11 : decode cX11_bySmall 11 = .ok (.getfield 13, 3) := by decide +kernel
theorem dX11_bySmall_14 : decode cX11_bySmall 14 = .ok (.arraylength, 1) := by decide +kernel
theorem dX11_bySmall_15 : decode cX11_bySmall 15 = .ok (.iconst 1, 1) := by decide +kernel
theorem dX11_bySmall_16 : decode cX11_bySmall 16 = .ok (.isub, 1) := by decide +kernel
theorem dX11_bySmall_17 : decode cX11_bySmall 17 = .ok (.istore 4, 2) := by decide +kernel
theorem dX11_bySmall_19 : decode cX11_bySmall 19 = .ok (.iload 4, 2) := by decide +kernel
theorem dX11_bySmall_21 : decode cX11_bySmall 21 = .ok (.ifCond .lt 37, 3) := by decide +kernel
theorem dX11_bySmall_24 : decode cX11_bySmall 24 = .ok (.iload_n 3, 1) := by decide +kernel
theorem dX11_bySmall_25 : decode cX11_bySmall 25 = .ok (.sipush 10000, 3) := by decide +kernel
theorem dX11_bySmall_28 : decode cX11_bySmall 28 = .ok (.imul, 1) := by decide +kernel
theorem dX11_bySmall_29 : decode cX11_bySmall 29 = .ok (.aload_n 0, 1) := by decide +kernel
theorem dX11_bySmall_30 : decode cX11_bySmall 30 = .ok (.getfield 13, 3) := by decide +kernel
theorem dX11_bySmall_33 : decode cX11_bySmall 33 = .ok (.iload 4, 2) := by decide +kernel
theorem dX11_bySmall_35 : decode cX11_bySmall 35 = .ok (.iaload, 1) := by decide +kernel
theorem dX11_bySmall_36 : decode cX11_bySmall 36 = .ok (.iadd, 1) := by decide +kernel
theorem dX11_bySmall_37 : decode cX11_bySmall 37 = .ok (.istore 5, 2) := by decide +kernel
theorem dX11_bySmall_39 : decode cX11_bySmall 39 = .ok (.aload_n 2, 1) := by decide +kernel
theorem dX11_bySmall_40 : decode cX11_bySmall 40 = .ok (.iload 4, 2) := by decide +kernel
theorem dX11_bySmall_42 : decode cX11_bySmall 42 = .ok (.iload 5, 2) := by decide +kernel
theorem dX11_bySmall_44 : decode cX11_bySmall 44 = .ok (.iload_n 1, 1) := by decide +kernel
theorem dX11_bySmall_45 : decode cX11_bySmall 45 = .ok (.idiv, 1) := by decide +kernel
theorem dX11_bySmall_46 : decode cX11_bySmall 46 = .ok (.iastore, 1) := by decide +kernel
theorem dX11_bySmall_47 : decode cX11_bySmall 47 = .ok (.iload 5, 2) := by decide +kernel
theorem dX11_bySmall_49 : decode cX11_bySmall 49 = .ok (.iload_n 1, 1) := by decide +kernel
theorem dX11_bySmall_50 : decode cX11_bySmall 50 = .ok (.irem, 1) := by decide +kernel
theorem dX11_bySmall_51 : decode cX11_bySmall 51 = .ok (.istore_n 3, 1) := by decide +kernel
theorem dX11_bySmall_52 : decode cX11_bySmall 52 = .ok (.iinc 4 (-1), 3) := by decide +kernel
theorem dX11_bySmall_55 : decode cX11_bySmall 55 = .ok (.goto (-36), 3) := by decide +kernel
theorem dX11_bySmall_58 : decode cX11_bySmall 58 = .ok (.new 8, 3) := by decide +kernel
theorem dX11_bySmall_61 : decode cX11_bySmall 61 = .ok (.dup, 1) := by decide +kernel
theorem dX11_bySmall_62 : decode cX11_bySmall 62 = .ok (.iconst 1, 1) := by decide +kernel
theorem dX11_bySmall_63 : decode cX11_bySmall 63 = .ok (.aload_n 2, 1) := by decide +kernel
theorem dX11_bySmall_64 : decode cX11_bySmall 64 = .ok (.invokespecial 25, 3) := by decide +kernel
theorem dX11_bySmall_67 : decode cX11_bySmall 67 = .ok (.areturn, 1) := by decide +kernel
set_option maxRecDepth 20000 in
theorem ggX11_divided_X11_of : GoodIn wsX11_divided wsX11_of := goodIn_r _ [7, 8, 9, 10, 11, 12, 13, 2, 14, 6, 15, 16, 17, 18, 19, 20, 3, 1, 68, 69] (by decide +kernel) (by decide +kernel)
set_option maxRecDepth 20000 in
theorem gX11_divided_X11_of : GoodIn wsX11_divided (va_wsS RX11 52 yX11_of wsX11_of) := goodIn_app (goodIn_of _ (by decide +kernel)) ggX11_divided_X11_of
set_option maxRecDepth 20000 in
theorem ggX11_divided_X11_size : GoodIn wsX11_divided wsX11_size := goodIn_r _ [24, 3, 25, 26, 27, 6, 28, 2, 14, 1, 15, 16, 17, 18, 19, 20, 8, 68, 69] (by decide +kernel) (by decide +kernel)
set_option maxRecDepth 20000 in
theorem gX11_divided_X11_size : GoodIn wsX11_divided (wsV RX11 56 RX11 yX11_size wsX11_size) := goodIn_app (goodIn_of _ (by decide +kernel)) ggX11_divided_X11_size
set_option maxRecDepth 20000 in
theorem ggX11_divided_X11_bySmall : GoodIn wsX11_divided wsX11_bySmall := goodIn_r _ [32, 1, 8, 2, 14, 6, 15, 16, 17, 18, 19, 20, 3, 68, 69] (by decide +kernel) (by decide +kernel)
set_option maxRecDepth 20000 in
theorem gX11_divided_X11_bySmall : GoodIn wsX11_divided (wsV RX11 59 RX11 yX11_bySmall wsX11_bySmall) := goodIn_app (goodIn_of _ (by decide +kernel)) ggX11_divided_X11_bySmall
set_option maxRecDepth 20000 in
theorem ggX11_divided_X11_rest : GoodIn wsX11_divided wsX11_rest := goodIn_r _ [36, 1, 9, 68, 69] (by decide +kernel) (by decide +kernel)
set_option maxRecDepth 20000 in
theorem gX11_divided_X11_rest : GoodIn wsX11_divided (wsV RX11 63 RX11 yX11_rest wsX11_rest) := goodIn_app (goodIn_of _ (by decide +kernel)) ggX11_divided_X11_rest
set_option maxRecDepth 20000 in
theorem ggX11_divided_X11_comparedSize : GoodIn wsX11_divided wsX11_comparedSize := goodIn_r _ [40, 1, 41, 42, 12, 43, 44, 45, 46, 6, 47, 68, 69] (by decide +kernel) (by decide +kernel)
set_option maxRecDepth 20000 in
theorem gX11_divided_X11_comparedSize : GoodIn wsX11_divided (wsV RX11 40 RX11 yX11_comparedSize wsX11_comparedSize) := goodIn_app (goodIn_of _ (by decide +kernel)) ggX11_divided_X11_comparedSize
set_option maxRecDepth 20000 in
theorem ggX11_divided_X11_longDivided : GoodIn wsX11_divided wsX11_longDivided := goodIn_r _ [50, 1, 8, 51, 52, 12, 53, 2, 14, 6, 4, 5, 7, 9, 10, 11, 13, 15, 16, 17, 18, 19, 20, 3, 54, 55, 56, 57, 44, 45, 46, 47, 58, 59, 60, 61, 62, 63, 64, 65, 66, 67, 29, 30, 31, 32, 68, 69] (by decide +kernel) (by decide +kernel)
set_option maxRecDepth 20000 in
theorem gX11_divided_X11_longDivided : GoodIn wsX11_divided (va_wsS RX11 66 yX11_longDivided wsX11_longDivided) := goodIn_app (goodIn_of _ (by decide +kernel)) ggX11_divided_X11_longDivided
set_option maxRecDepth 20000 in
theorem ggX11_divided_X11_negated : GoodIn wsX11_divided wsX11_negated := goodIn_r _ [28, 2, 14, 6, 3, 1, 15, 16, 17, 18, 19, 20, 8, 68, 69] (by decide +kernel) (by decide +kernel)
set_option maxRecDepth 20000 in
theorem gX11_divided_X11_negated : GoodIn wsX11_divided (wsV RX11 28 RX11 yX11_negated wsX11_negated) := goodIn_app (goodIn_of _ (by decide +kernel)) ggX11_divided_X11_negated
theorem dX11_divided_0 : decode cX11_divided 0 = .ok (.lconst 0, 1) := by decide +kernel
theorem dX11_divided_1 : decode cX11_divided 1 = .ok (.invokestatic 52, 3) := by decide +kernel
theorem dX11_divided_4 : decode cX11_divided 4 = .ok (.astore_n 2, 1) := by decide +kernel
theorem dX11_divided_5 : decode cX11_divided 5 = .ok (.aload_n 0, 1) := by decide +kernel
theorem dX11_divided_6 : decode cX11_divided 6 = .ok (.invokevirtual 56, 3) := by decide +kernel
theorem dX11_divided_9 : decode cX11_divided 9 = .ok (.astore_n 3, 1) := by decide +kernel
theorem dX11_divided_10 : decode cX11_divided 10 = .ok (.aload_n 1, 1) := by decide +kernel
theorem dX11_divided_11 : decode cX11_divided 11 = .ok (.getfield 13, 3) := by decide +kernel
theorem dX11_divided_14 : decode cX11_divided 14 = .ok (.arraylength, 1) := by decide +kernel
theorem dX11_divided_15 : decode cX11_divided 15 = .ok (.iconst 1, 1) := by decide +kernel
theorem dX11_divided_16 : decode cX11_divided 16 = .ok (.if_icmp .ne 32, 3) := by decide +kernel
theorem dX11_divided_19 : decode cX11_divided 19 = .ok (.aload_n 0, 1) := by decide +kernel
theorem dX11_divided_20 : decode cX11_divided 20 = .ok (.aload_n 1, 1) := by decide +kernel
theorem dX11_divided_21 : decode cX11_divided 21 = .ok (.getfield 13, 3) := by decide +kernel
theorem dX11_divided_24 : decode cX11_divided 24 = .ok (.iconst 0, 1) := by decide +kernel
theorem dX11_divided_25 : decode cX11_divided 25 = .ok (.iaload, 1) := by decide +kernel
theorem dX11_divided_26 : decode cX11_divided 26 = .ok (.invokevirtual 59, 3) := by decide +kernel
theorem dX11_divided_29 : decode cX11_divided 29 = .ok (.astore_n 2, 1) := by decide +kernel
theorem dX11_divided_30 : decode cX11_divided 30 = .ok (.aload_n 0, 1) := by decide +kernel
theorem dX11_divided_31 : decode cX11_divided 31 = .ok (.aload_n 1, 1) := by decide +kernel
theorem dX11_divided_32 : decode cX11_divided 32 = .ok (.getfield 13, 3) := by decide +kernel
theorem dX11_divided_35 : decode cX11_divided 35 = .ok (.iconst 0, 1) := by decide +kernel
theorem dX11_divided_36 : decode cX11_divided 36 = .ok (.iaload, 1) := by decide +kernel
theorem dX11_divided_37 : decode cX11_divided 37 = .ok (.i2l, 1) := by decide +kernel
theorem dX11_divided_38 : decode cX11_divided 38 = .ok (.invokevirtual 63, 3) := by decide +kernel
theorem dX11_divided_41 : decode cX11_divided 41 = .ok (.invokestatic 52, 3) := by decide +kernel
theorem dX11_divided_44 : decode cX11_divided 44 = .ok (.astore_n 3, 1) := by decide +kernel
theorem dX11_divided_45 : decode cX11_divided 45 = .ok (.goto 34, 3) := by decide +kernel
theorem dX11_divided_48 : decode cX11_divided 48 = .ok (.aload_n 0, 1) := by decide +kernel
theorem dX11_divided_49 : decode cX11_divided 49 = .ok (.aload_n 1, 1) := by decide +kernel
theorem dX11_divided_50 : decode cX11_divided 50 = .ok (.invokevirtual 40, 3) := by decide +kernel
theorem dX11_divided_53 : decode cX11_divided 53 = .ok (.ifCond .lt 26, 3) := by decide +kernel
theorem dX11_divided_56 : decode cX11_divided 56 = .ok (.aload_n 0, 1) := by decide +kernel
theorem dX11_divided_57 : decode cX11_divided 57 = .ok (.invokevirtual 56, 3) := by decide +kernel
theorem dX11_divided_60 : decode cX11_divided 60 = .ok (.aload_n 1, 1) := by decide +kernel
theorem dX11_divided_61 : decode cX11_divided 61 = .ok (.invokevirtual 56, 3) := by decide +kernel
theorem dX11_divided_64 : decode cX11_divided 64 = .ok (.invokestatic 66, 3) := by decide +kernel
theorem dX11_divided_67 : decode cX11_divided 67 = .ok (.astore 4, 2) := by decide +kernel
theorem dX11_divided_69 : decode cX11_divided 69 = .ok (.aload 4, 2) := by decide +kernel
theorem dX11_divided_71 : decode cX11_divided 71 = .ok (.iconst 0, 1) := by decide +kernel
theorem dX11_divided_72 : decode cX11_divided 72 = .ok (.aaload, 1) := by decide +kernel
theorem dX11_divided_73 : decode cX11_divided 73 = .ok (.astore_n 2, 1) := by decide +kernel
theorem dX11_divided_74 : decode cX11_divided 74 = .ok (.aload 4, 2) := by decide +kernel
theorem dX11_divided_76 : decode cX11_divided 76 = .ok (.iconst 1, 1) := by decide +kernel
theorem dX11_divided_77 : decode cX11_divided 77 = .ok (.aaload, 1) := by decide +kernel
theorem dX11_divided_78 : decode cX11_divided 78 = .ok (.astore_n 3, 1) := by decide +kernel
theorem dX11_divided_79 : decode cX11_divided 79 = .ok (.iconst 2, 1) := by decide +kernel
theorem dX11_divided_80 : decode cX11_divided 80 = .ok (.anewarray 8, 3) := by decide +kernel
theorem dX11_divided_83 : decode cX11_divided 83 = .ok (.dup, 1) := by decide +kernel
theorem dX11_divided_84 : decode cX11_divided 84 = .ok (.iconst 0, 1) := by decide +kernel
theorem dX11_divided_85 : decode cX11_divided 85 = .ok (.aload_n 0, 1) := by decide +kernel
theorem dX11_divided_86 : decode cX11_divided 86 = .ok (.getfield 7, 3) := by decide +kernel
theorem dX11_divided_89 : decode cX11_divided 89 = .ok (.aload_n 1, 1) := by decide +kernel
theorem dX11_divided_90 : decode cX11_divided 90 = .ok (.getfield 7, 3) := by decide +kernel
theorem dX11_divided_93 : decode cX11_divided 93 = .ok (.imul, 1) := by decide +kernel
theorem dX11_divided_94 : decode cX11_divided 94 = .ok (.ifCond .ge 10, 3) := by decide +kernel
theorem dX11_divided_97 : decode cX11_divided 97 = .ok (.aload_n 2, 1) := by decide +kernel
theorem dX11_divided_98 : decode cX11_divided 98 = .ok (.invokevirtual 28, 3) := by decide +kernel
theorem dX11_divided_101 : decode cX11_divided 101 = .ok (.goto 4, 3) := by decide +kernel
theorem dX11_divided_104 : decode cX11_divided 104 = .ok (.aload_n 2, 1) := by decide +kernel
theorem dX11_divided_105 : decode cX11_divided 105 = .ok (.aastore, 1) := by decide +kernel
theorem dX11_divided_106 : decode cX11_divided 106 = .ok (.dup, 1) := by decide +kernel
theorem dX11_divided_107 : decode cX11_divided 107 = .ok (.iconst 1, 1) := by decide +kernel
theorem dX11_divided_108 : decode cX11_divided 108 = .ok (.aload_n 0, 1) := by decide +kernel
theorem dX11_divided_109 : decode cX11_divided 109 = .ok (.getfield 7, 3) := by decide +kernel
theorem dX11_divided_112 : decode cX11_divided 112 = .ok (.ifCond .ge 10, 3) := by decide +kernel
theorem dX11_divided_115 : decode cX11_divided 115 = .ok (.aload_n 3, 1) := by decide +kernel
theorem dX11_divided_116 : decode cX11_divided 116 = .ok (.invokevirtual 28, 3) := by decide +kernel
theorem dX11_divided_119 : decode cX11_divided 119 = .ok (.goto 4, 3) := by decide +kernel
theorem dX11_divided_122 : decode cX11_divided 122 = .ok (.aload_n 3, 1) := by decide +kernel
theorem dX11_divided_123 : decode cX11_divided 123 = .ok (.aastore, 1) := by decide +kernel
theorem dX11_divided_124 : decode cX11_divided 124 = .ok (.areturn, 1) := by decide +kernel
set_option maxRecDepth 20000 in
theorem ggX11_longDivided_X11_of : GoodIn wsX11_longDivided wsX11_of := goodIn_r _ [12, 2, 13, 14, 15, 5, 16, 7, 8, 9, 17, 18, 19, 20, 21, 22, 23, 1, 46, 47] (by decide +kernel) (by decide +kernel)
set_option maxRecDepth 20000 in
theorem gX11_longDivided_X11_of : GoodIn wsX11_longDivided (va_wsS RX11 52 yX11_of wsX11_of) := goodIn_app (goodIn_of _ (by decide +kernel)) ggX11_longDivided_X11_of
set_option maxRecDepth 20000 in
theorem ggX11_longDivided_X11_times : GoodIn wsX11_longDivided wsX11_times := goodIn_r _ [27, 1, 2, 7, 8, 9, 23, 28, 29, 30, 31, 17, 18, 19, 20, 21, 22, 46, 47] (by decide +kernel) (by decide +kernel)
set_option maxRecDepth 20000 in
theorem gX11_longDivided_X11_times : GoodIn wsX11_longDivided (wsV RX11 70 RX11 yX11_times wsX11_times) := goodIn_app (goodIn_of _ (by decide +kernel)) ggX11_longDivided_X11_times
set_option maxRecDepth 20000 in
theorem ggX11_longDivided_X11_takes : GoodIn wsX11_longDivided wsX11_takes := goodIn_r _ [34, 35, 36, 37, 38] (by decide +kernel) (by decide +kernel)
set_option maxRecDepth 20000 in
theorem gX11_longDivided_X11_takes : GoodIn wsX11_longDivided (va_wsS RX11 76 yX11_takes wsX11_takes) := goodIn_app (goodIn_of _ (by decide +kernel)) ggX11_longDivided_X11_takes
set_option maxRecDepth 20000 in
theorem ggX11_longDivided_X11_gives : GoodIn wsX11_longDivided wsX11_gives := goodIn_r _ [41] (by decide +kernel) (by decide +kernel)
set_option maxRecDepth 20000 in
theorem gX11_longDivided_X11_gives : GoodIn wsX11_longDivided (va_wsS RX11 80 yX11_gives wsX11_gives) := goodIn_app (goodIn_of _ (by decide +kernel)) ggX11_longDivided_X11_gives
set_option maxRecDepth 20000 in
theorem ggX11_longDivided_X11_init : GoodIn wsX11_longDivided wsX11_init := goodIn_r _ [19, 20, 21, 22, 23, 2, 1, 46, 47] (by decide +kernel) (by decide +kernel)
set_option maxRecDepth 20000 in
theorem gX11_longDivided_X11_init : GoodIn wsX11_longDivided (wsX11_init) := ggX11_longDivided_X11_init
set_option maxRecDepth 20000 in
theorem ggX11_longDivided_X11_bySmall : GoodIn wsX11_longDivided wsX11_bySmall := goodIn_r _ [45, 1, 2, 7, 8, 9, 17, 18, 19, 20, 21, 22, 23, 46, 47] (by decide +kernel) (by decide +kernel)
set_option maxRecDepth 20000 in
theorem gX11_longDivided_X11_bySmall : GoodIn wsX11_longDivided (wsV RX11 59 RX11 yX11_bySmall wsX11_bySmall) := goodIn_app (goodIn_of _ (by decide +kernel)) ggX11_longDivided_X11_bySmall
theorem dX11_longDivided_0 : decode cX11_longDivided 0 = .ok (.sipush 10000, 3) := by decide +kernel
theorem dX11_longDivided_3 : decode cX11_longDivided 3 = .ok (.aload_n 1, 1) := by decide +kernel
theorem dX11_longDivided_4 : decode cX11_longDivided 4 = .ok (.getfield 13, 3) := by decide +kernel
theorem dX11_longDivided_7 : decode cX11_longDivided 7 = .ok (.aload_n 1, 1) := by decide +kernel
theorem dX11_longDivided_8 : decode cX11_longDivided 8 = .ok (.getfield 13, 3) := by decide +kernel
theorem dX11_longDivided_11 : decode cX11_longDivided 11 = .ok (.arraylength, 1) := by decide +kernel
theorem dX11_longDivided_12 : decode cX11_longDivided 12 = .ok (.iconst 1, 1) := by decide +kernel
theorem dX11_longDivided_13 : decode cX11_longDivided 13 = .ok (.isub, 1) := by decide +kernel
theorem dX11_longDivided_14 : decode cX11_longDivided 14 = .ok (.iaload, 1) := by decide +kernel
theorem dX11_longDivided_15 : decode cX11_longDivided 15 = .ok (.iconst 1, 1) := by decide +kernel
theorem dX11_longDivided_16 : decode cX11_longDivided 16 = .ok (.iadd, 1) := by decide +kernel
theorem dX11_longDivided_17 : decode cX11_longDivided 17 = .ok (.idiv, 1) := by decide +kernel
theorem dX11_longDivided_18 : decode cX11_longDivided 18 = .ok (.istore_n 2, 1) := by decide +kernel
theorem dX11_longDivided_19 : decode cX11_longDivided 19 = .ok (.aload_n 1, 1) := by decide +kernel
theorem dX11_longDivided_20 : decode cX11_longDivided 20 = .ok (.iload_n 2, 1) := by decide +kernel
theorem dX11_longDivided_21 : decode cX11_longDivided 21 = .ok (.i2l, 1) := by decide +kernel
theorem dX11_longDivided_22 : decode cX11_longDivided 22 = .ok (.invokestatic 52, 3) := by decide +kernel
theorem dX11_longDivided_25 : decode cX11_longDivided 25 = .ok (.invokevirtual 70, 3) := by decide +kernel
theorem dX11_longDivided_28 : decode cX11_longDivided 28 = .ok (.getfield 13, 3) := by decide +kernel
theorem dX11_longDivided_31 : decode cX11_longDivided 31 = .ok (.astore_n 3, 1) := by decide +kernel
theorem dX11_longDivided_32 : decode cX11_longDivided 32 = .ok (.aload_n 0, 1) := by decide +kernel
theorem dX11_longDivided_33 : decode cX11_longDivided 33 = .ok (.iload_n 2, 1) := by decide +kernel
theorem dX11_longDivided_34 : decode cX11_longDivided 34 = .ok (.i2l, 1) := by decide +kernel
theorem dX11_longDivided_35 : decode cX11_longDivided 35 = .ok (.invokestatic 52, 3) := by decide +kernel
theorem dX11_longDivided_38 : decode cX11_longDivided 38 = .ok (.invokevirtual 70, 3) := by decide +kernel
theorem dX11_longDivided_41 : decode cX11_longDivided 41 = .ok (.astore 4, 2) := by decide +kernel
theorem dX11_longDivided_43 : decode cX11_longDivided 43 = .ok (.aload_n 3, 1) := by decide +kernel
theorem dX11_longDivided_44 : decode cX11_longDivided 44 = .ok (.arraylength, 1) := by decide +kernel
theorem dX11_longDivided_45 : decode cX11_longDivided 45 = .ok (.istore 5, 2) := by decide +kernel
theorem dX11_longDivided_47 : decode cX11_longDivided 47 = .ok (.aload 4, 2) := by decide +kernel
theorem dX11_longDivided_49 : decode cX11_longDivided 49 = .ok (.getfield 13, 3) := by decide +kernel
theorem dX11_longDivided_52 : decode cX11_longDivided 52 = .ok (.arraylength, 1) := by decide +kernel
theorem dX11_longDivided_53 : decode cX11_longDivided 53 = .ok (.iconst 1, 1) := by decide +kernel
theorem dX11_longDivided_54 : decode cX11_longDivided 54 = .ok (.iadd, 1) := by decide +kernel
theorem dX11_longDivided_55 : decode cX11_longDivided 55 = .ok (.newarray .int, 2) := by decide +kernel
theorem dX11_longDivided_57 : decode cX11_longDivided 57 = .ok (.astore 6, 2) := by decide +kernel
theorem dX11_longDivided_59 : decode cX11_longDivided 59 = .ok (.iconst 0, 1) := by decide +kernel
theorem dX11_longDivided_60 : decode cX11_longDivided 60 = .ok (.istore 7, 2) := by decide +kernel
theorem dX11_longDivided_62 : decode cX11_longDivided 62 = .ok (.iload 7, 2) := by decide +kernel
theorem dX11_longDivided_64 : decode cX11_longDivided 64 = .ok (.aload 4, 2) := by decide +kernel
theorem dX11_longDivided_66 : decode cX11_longDivided 66 = .ok (.getfield 13, 3) := by decide +kernel
theorem dX11_longDivided_69 : decode cX11_longDivided 69 = .ok (.arraylength, 1) := by decide +kernel
theorem dX11_longDivided_70 : decode cX11_longDivided 70 = .ok (.if_icmp .ge 22, 3) := by decide +kernel
theorem dX11_longDivided_73 : decode cX11_longDivided 73 = .ok (.aload 6, 2) := by decide +kernel
theorem dX11_longDivided_75 : decode cX11_longDivided 75 = .ok (.iload 7, 2) := by decide +kernel
theorem dX11_longDivided_77 : decode cX11_longDivided 77 = .ok (.aload 4, 2) := by decide +kernel
theorem dX11_longDivided_79 : decode cX11_longDivided 79 = .ok (.getfield 13, 3) := by decide +kernel
theorem dX11_longDivided_82 : decode cX11_longDivided 82 = .ok (.iload 7, 2) := by decide +kernel
theorem dX11_longDivided_84 : decode cX11_longDivided 84 = .ok (.iaload, 1) := by decide +kernel
theorem dX11_longDivided_85 : decode cX11_longDivided 85 = .ok (.iastore, 1) := by decide +kernel
theorem dX11_longDivided_86 : decode cX11_longDivided 86 = .ok (.iinc 7 1, 3) := by decide +kernel
theorem dX11_longDivided_89 : decode cX11_longDivided 89 = .ok (.goto (-27), 3) := by decide +kernel
theorem dX11_longDivided_92 : decode cX11_longDivided 92 = .ok (.aload 6, 2) := by decide +kernel
theorem dX11_longDivided_94 : decode cX11_longDivided 94 = .ok (.arraylength, 1) := by decide +kernel
theorem dX11_longDivided_95 : decode cX11_longDivided 95 = .ok (.newarray .int, 2) := by decide +kernel
theorem dX11_longDivided_97 : decode cX11_longDivided 97 = .ok (.astore 7, 2) := by decide +kernel
theorem dX11_longDivided_99 : decode cX11_longDivided 99 = .ok (.aload 6, 2) := by decide +kernel
theorem dX11_longDivided_101 : decode cX11_longDivided 101 = .ok (.arraylength, 1) := by decide +kernel
theorem dX11_longDivided_102 : decode cX11_longDivided 102 = .ok (.iconst 1, 1) := by decide +kernel
theorem dX11_longDivided_103 : decode cX11_longDivided 103 = .ok (.isub, 1) := by decide +kernel
theorem dX11_longDivided_104 : decode cX11_longDivided 104 = .ok (.iload 5, 2) := by decide +kernel
theorem dX11_longDivided_106 : decode cX11_longDivided 106 = .ok (.isub, 1) := by decide +kernel
theorem dX11_longDivided_107 : decode cX11_longDivided 107 = .ok (.istore 8, 2) := by decide +kernel
theorem dX11_longDivided_109 : decode cX11_longDivided 109 = .ok (.iload 8, 2) := by decide +kernel
theorem dX11_longDivided_111 : decode cX11_longDivided 111 = .ok (.ifCond .lt 90, 3) := by decide +kernel
theorem dX11_longDivided_114 : decode cX11_longDivided 114 = .ok (.sipush 9999, 3) := by decide +kernel
theorem dX11_longDivided_117 : decode cX11_longDivided 117 = .ok (.aload 6, 2) := by decide +kernel
theorem dX11_longDivided_119 : decode cX11_longDivided 119 = .ok (.iload 8, 2) := by decide +kernel
theorem dX11_longDivided_121 : decode cX11_longDivided 121 = .ok (.iload 5, 2) := by decide +kernel
theorem dX11_longDivided_123 : decode cX11_longDivided 123 = .ok (.iadd, 1) := by decide +kernel
theorem dX11_longDivided_124 : decode cX11_longDivided 124 = .ok (.iaload, 1) := by decide +kernel
theorem dX11_longDivided_125 : decode cX11_longDivided 125 = .ok (.sipush 10000, 3) := by decide +kernel
theorem dX11_longDivided_128 : decode cX11_longDivided 128 = .ok (.imul, 1) := by decide +kernel
theorem dX11_longDivided_129 : decode cX11_longDivided 129 = .ok (.aload 6, 2) := by decide +kernel
theorem dX11_longDivided_131 : decode cX11_longDivided 131 = .ok (.iload 8, 2) := by decide +kernel
theorem dX11_longDivided_133 : decode cX11_longDivided 133 = .ok (.iload 5, 2) := by decide +kernel
theorem dX11_longDivided_135 : decode cX11_longDivided 135 = .ok (.iadd, 1) := by decide +kernel
theorem dX11_longDivided_136 : decode cX11_longDivided 136 = .ok (.iconst 1, 1) := by decide +kernel
theorem dX11_longDivided_137 : decode cX11_longDivided 137 = .ok (.isub, 1) := by decide +kernel
theorem dX11_longDivided_138 : decode cX11_longDivided 138 = .ok (.iaload, 1) := by decide +kernel
theorem dX11_longDivided_139 : decode cX11_longDivided 139 = .ok (.iadd, 1) := by decide +kernel
theorem dX11_longDivided_140 : decode cX11_longDivided 140 = .ok (.aload_n 3, 1) := by decide +kernel
theorem dX11_longDivided_141 : decode cX11_longDivided 141 = .ok (.iload 5, 2) := by decide +kernel
theorem dX11_longDivided_143 : decode cX11_longDivided 143 = .ok (.iconst 1, 1) := by decide +kernel
theorem dX11_longDivided_144 : decode cX11_longDivided 144 = .ok (.isub, 1) := by decide +kernel
theorem dX11_longDivided_145 : decode cX11_longDivided 145 = .ok (.iaload, 1) := by decide +kernel
theorem dX11_longDivided_146 : decode cX11_longDivided 146 = .ok (.idiv, 1) := by decide +kernel
theorem dX11_longDivided_147 : decode cX11_longDivided 147 = .ok (.invokestatic 73, 3) := by decide +kernel
theorem dX11_longDivided_150 : decode cX11_longDivided 150 = .ok (.istore 9, 2) := by decide +kernel
theorem dX11_longDivided_152 : decode cX11_longDivided 152 = .ok (.aload 6, 2) := by decide +kernel
theorem dX11_longDivided_154 : decode cX11_longDivided 154 = .ok (.aload_n 3, 1) := by decide +kernel
theorem dX11_longDivided_155 : decode cX11_longDivided 155 = .ok (.iload 8, 2) := by decide +kernel
theorem dX11_longDivided_157 : decode cX11_longDivided 157 = .ok (.iload 9, 2) := by decide +kernel
theorem dX11_longDivided_159 : decode cX11_longDivided 159 = .ok (.invokestatic 76, 3) := by decide +kernel
theorem dX11_longDivided_162 : decode cX11_longDivided 162 = .ok (.istore 10, 2) := by decide +kernel
theorem dX11_longDivided_164 : decode cX11_longDivided 164 = .ok (.iload 10, 2) := by decide +kernel
theorem dX11_longDivided_166 : decode cX11_longDivided 166 = .ok (.ifCond .ge 22, 3) := by decide +kernel
theorem dX11_longDivided_169 : decode cX11_longDivided 169 = .ok (.iinc 9 (-1), 3) := by decide +kernel
theorem dX11_longDivided_172 : decode cX11_longDivided 172 = .ok (.iload 10, 2) := by decide +kernel
theorem dX11_longDivided_174 : decode cX11_longDivided 174 = .ok (.aload 6, 2) := by decide +kernel
theorem dX11_longDivided_176 : decode cX11_longDivided 176 = .ok (.aload_n 3, 1) := by decide +kernel
theorem dX11_longDivided_177 : decode cX11_longDivided 177 = .ok (.iload 8, 2) := by decide +kernel
theorem dX11_longDivided_179 : decode cX11_longDivided 179 = .ok (.invokestatic 80, 3) := by decide +kernel
theorem dX11_longDivided_182 : decode cX11_longDivided 182 = .ok (.iadd, 1) := by decide +kernel
theorem dX11_longDivided_183 : decode cX11_longDivided 183 = .ok (.istore 10, 2) := by decide +kernel
theorem dX11_longDivided_185 : decode cX11_longDivided 185 = .ok (.goto (-21), 3) := by decide +kernel
theorem dX11_longDivided_188 : decode cX11_longDivided 188 = .ok (.aload 7, 2) := by decide +kernel
theorem dX11_longDivided_190 : decode cX11_longDivided 190 = .ok (.iload 8, 2) := by decide +kernel
theorem dX11_longDivided_192 : decode cX11_longDivided 192 = .ok (.iload 9, 2) := by decide +kernel
theorem dX11_longDivided_194 : decode cX11_longDivided 194 = .ok (.iastore, 1) := by decide +kernel
theorem dX11_longDivided_195 : decode cX11_longDivided 195 = .ok (.iinc 8 (-1), 3) := by decide +kernel
theorem dX11_longDivided_198 : decode cX11_longDivided 198 = .ok (.goto (-89), 3) := by decide +kernel
theorem dX11_longDivided_201 : decode cX11_longDivided 201 = .ok (.iconst 2, 1) := by decide +kernel
theorem dX11_longDivided_202 : decode cX11_longDivided 202 = .ok (.anewarray 8, 3) := by decide +kernel
theorem dX11_longDivided_205 : decode cX11_longDivided 205 = .ok (.dup, 1) := by decide +kernel
theorem dX11_longDivided_206 : decode cX11_longDivided 206 = .ok (.iconst 0, 1) := by decide +kernel
theorem dX11_longDivided_207 : decode cX11_longDivided 207 = .ok (.new 8, 3) := by decide +kernel
theorem dX11_longDivided_210 : decode cX11_longDivided 210 = .ok (.dup, 1) := by decide +kernel
theorem dX11_longDivided_211 : decode cX11_longDivided 211 = .ok (.iconst 1, 1) := by decide +kernel
theorem dX11_longDivided_212 : decode cX11_longDivided 212 = .ok (.aload 7, 2) := by decide +kernel
theorem dX11_longDivided_214 : decode cX11_longDivided 214 = .ok (.invokespecial 25, 3) := by decide +kernel
theorem dX11_longDivided_217 : decode cX11_longDivided 217 = .ok (.aastore, 1) := by decide +kernel
theorem dX11_longDivided_218 : decode cX11_longDivided 218 = .ok (.dup, 1) := by decide +kernel
theorem dX11_longDivided_219 : decode cX11_longDivided 219 = .ok (.iconst 1, 1) := by decide +kernel
theorem dX11_longDivided_220 : decode cX11_longDivided 220 = .ok (.new 8, 3) := by decide +kernel
theorem dX11_longDivided_223 : decode cX11_longDivided 223 = .ok (.dup, 1) := by decide +kernel
theorem dX11_longDivided_224 : decode cX11_longDivided 224 = .ok (.iconst 1, 1) := by decide +kernel
theorem dX11_longDivided_225 : decode cX11_longDivided 225 = .ok (.aload 6, 2) := by decide +kernel
theorem dX11_longDivided_227 : decode cX11_longDivided 227 = .ok (.invokespecial 25, 3) := by decide +kernel
theorem dX11_longDivided_230 : decode cX11_longDivided 230 = .ok (.iload_n 2, 1) := by decide +kernel
theorem dX11_longDivided_231 : decode cX11_longDivided 231 = .ok (.invokevirtual 59, 3) := by decide +kernel
theorem dX11_longDivided_234 : decode cX11_longDivided 234 = .ok (.aastore, 1) := by decide +kernel
theorem dX11_longDivided_235 : decode cX11_longDivided 235 = .ok (.areturn, 1) := by decide +kernel
set_option maxRecDepth 20000 in
theorem ggX11_takes_J9_floorDiv_7cf53 : GoodIn wsX11_takes wsJ9_floorDiv_7cf53 := goodIn_r _ [4] (by decide +kernel) (by decide +kernel)
set_option maxRecDepth 20000 in
theorem gX11_takes_J9_floorDiv_7cf53 : GoodIn wsX11_takes (va_wsS RX11 84 yJ9_floorDiv_7cf53 wsJ9_floorDiv_7cf53) := goodIn_app (goodIn_of _ (by decide +kernel)) ggX11_takes_J9_floorDiv_7cf53
theorem dX11_takes_0 : decode cX11_takes 0 = .ok (.iconst 0, 1) := by decide +kernel
theorem dX11_takes_1 : decode cX11_takes 1 = .ok (.istore 4, 2) := by decide +kernel
theorem dX11_takes_3 : decode cX11_takes 3 = .ok (.iconst 0, 1) := by decide +kernel
theorem dX11_takes_4 : decode cX11_takes 4 = .ok (.istore 5, 2) := by decide +kernel
theorem dX11_takes_6 : decode cX11_takes 6 = .ok (.iload 5, 2) := by decide +kernel
theorem dX11_takes_8 : decode cX11_takes 8 = .ok (.aload_n 1, 1) := by decide +kernel
theorem dX11_takes_9 : decode cX11_takes 9 = .ok (.arraylength, 1) := by decide +kernel
theorem dX11_takes_10 : decode cX11_takes 10 = .ok (.if_icmp .gt 63, 3) := by decide +kernel
theorem dX11_takes_13 : decode cX11_takes 13 = .ok (.aload_n 0, 1) := by decide +kernel
theorem dX11_takes_14 : decode cX11_takes 14 = .ok (.iload_n 2, 1) := by decide +kernel
theorem dX11_takes_15 : decode cX11_takes 15 = .ok (.iload 5, 2) := by decide +kernel
theorem dX11_takes_17 : decode cX11_takes 17 = .ok (.iadd, 1) := by decide +kernel
theorem dX11_takes_18 : decode cX11_takes 18 = .ok (.iaload, 1) := by decide +kernel
theorem dX11_takes_19 : decode cX11_takes 19 = .ok (.iload 5, 2) := by decide +kernel
theorem dX11_takes_21 : decode cX11_takes 21 = .ok (.aload_n 1, 1) := by decide +kernel
theorem dX11_takes_22 : decode cX11_takes 22 = .ok (.arraylength, 1) := by decide +kernel
theorem dX11_takes_23 : decode cX11_takes 23 = .ok (.if_icmp .ge 12, 3) := by decide +kernel
theorem dX11_takes_26 : decode cX11_takes 26 = .ok (.iload_n 3, 1) := by decide +kernel
theorem dX11_takes_27 : decode cX11_takes 27 = .ok (.aload_n 1, 1) := by decide +kernel
theorem dX11_takes_28 : decode cX11_takes 28 = .ok (.iload 5, 2) := by decide +kernel
theorem dX11_takes_30 : decode cX11_takes 30 = .ok (.iaload, 1) := by decide +kernel
theorem dX11_takes_31 : decode cX11_takes 31 = .ok (.imul, 1) := by decide +kernel
theorem dX11_takes_32 : decode cX11_takes 32 = .ok (.goto 4, 3) := by decide +kernel
theorem dX11_takes_35 : decode cX11_takes 35 = .ok (.iconst 0, 1) := by decide +kernel
theorem dX11_takes_36 : decode cX11_takes 36 = .ok (.isub, 1) := by decide +kernel
theorem dX11_takes_37 : decode cX11_takes 37 = .ok (.iload 4, 2) := by decide +kernel
theorem dX11_takes_39 : decode cX11_takes 39 = .ok (.iadd, 1) := by decide +kernel
theorem dX11_takes_40 : decode cX11_takes 40 = .ok (.istore 6, 2) := by decide +kernel
theorem dX11_takes_42 : decode cX11_takes 42 = .ok (.iload 6, 2) := by decide +kernel
theorem dX11_takes_44 : decode cX11_takes 44 = .ok (.sipush 10000, 3) := by decide +kernel
theorem dX11_takes_47 : decode cX11_takes 47 = .ok (.invokestatic 84, 3) := by decide +kernel
theorem dX11_takes_50 : decode cX11_takes 50 = .ok (.istore 4, 2) := by decide +kernel
theorem dX11_takes_52 : decode cX11_takes 52 = .ok (.aload_n 0, 1) := by decide +kernel
theorem dX11_takes_53 : decode cX11_takes 53 = .ok (.iload_n 2, 1) := by decide +kernel
theorem dX11_takes_54 : decode cX11_takes 54 = .ok (.iload 5, 2) := by decide +kernel
theorem dX11_takes_56 : decode cX11_takes 56 = .ok (.iadd, 1) := by decide +kernel
theorem dX11_takes_57 : decode cX11_takes 57 = .ok (.iload 6, 2) := by decide +kernel
theorem dX11_takes_59 : decode cX11_takes 59 = .ok (.iload 4, 2) := by decide +kernel
theorem dX11_takes_61 : decode cX11_takes 61 = .ok (.sipush 10000, 3) := by decide +kernel
theorem dX11_takes_64 : decode cX11_takes 64 = .ok (.imul, 1) := by decide +kernel
theorem dX11_takes_65 : decode cX11_takes 65 = .ok (.isub, 1) := by decide +kernel
theorem dX11_takes_66 : decode cX11_takes 66 = .ok (.iastore, 1) := by decide +kernel
theorem dX11_takes_67 : decode cX11_takes 67 = .ok (.iinc 5 1, 3) := by decide +kernel
theorem dX11_takes_70 : decode cX11_takes 70 = .ok (.goto (-64), 3) := by decide +kernel
theorem dX11_takes_73 : decode cX11_takes 73 = .ok (.iload 4, 2) := by decide +kernel
theorem dX11_takes_75 : decode cX11_takes 75 = .ok (.ireturn, 1) := by decide +kernel
theorem dX11_gives_0 : decode cX11_gives 0 = .ok (.iconst 0, 1) := by decide +kernel
theorem dX11_gives_1 : decode cX11_gives 1 = .ok (.istore_n 3, 1) := by decide +kernel
theorem dX11_gives_2 : decode cX11_gives 2 = .ok (.iconst 0, 1) := by decide +kernel
theorem dX11_gives_3 : decode cX11_gives 3 = .ok (.istore 4, 2) := by decide +kernel
theorem dX11_gives_5 : decode cX11_gives 5 = .ok (.iload 4, 2) := by decide +kernel
theorem dX11_gives_7 : decode cX11_gives 7 = .ok (.aload_n 1, 1) := by decide +kernel
theorem dX11_gives_8 : decode cX11_gives 8 = .ok (.arraylength, 1) := by decide +kernel
theorem dX11_gives_9 : decode cX11_gives 9 = .ok (.if_icmp .gt 54, 3) := by decide +kernel
theorem dX11_gives_12 : decode cX11_gives 12 = .ok (.aload_n 0, 1) := by decide +kernel
theorem dX11_gives_13 : decode cX11_gives 13 = .ok (.iload_n 2, 1) := by decide +kernel
theorem dX11_gives_14 : decode cX11_gives 14 = .ok (.iload 4, 2) := by decide +kernel
theorem dX11_gives_16 : decode cX11_gives 16 = .ok (.iadd, 1) := by decide +kernel
theorem dX11_gives_17 : decode cX11_gives 17 = .ok (.iaload, 1) := by decide +kernel
theorem dX11_gives_18 : decode cX11_gives 18 = .ok (.iload 4, 2) := by decide +kernel
theorem dX11_gives_20 : decode cX11_gives 20 = .ok (.aload_n 1, 1) := by decide +kernel
theorem dX11_gives_21 : decode cX11_gives 21 = .ok (.arraylength, 1) := by decide +kernel
theorem dX11_gives_22 : decode cX11_gives 22 = .ok (.if_icmp .ge 10, 3) := by decide +kernel
theorem dX11_gives_25 : decode cX11_gives 25 = .ok (.aload_n 1, 1) := by decide +kernel
theorem dX11_gives_26 : decode cX11_gives 26 = .ok (.iload 4, 2) := by decide +kernel
theorem dX11_gives_28 : decode cX11_gives 28 = .ok (.iaload, 1) := by decide +kernel
theorem dX11_gives_29 : decode cX11_gives 29 = .ok (.goto 4, 3) := by decide +kernel
theorem dX11_gives_32 : decode cX11_gives 32 = .ok (.iconst 0, 1) := by decide +kernel
theorem dX11_gives_33 : decode cX11_gives 33 = .ok (.iadd, 1) := by decide +kernel
theorem dX11_gives_34 : decode cX11_gives 34 = .ok (.iload_n 3, 1) := by decide +kernel
theorem dX11_gives_35 : decode cX11_gives 35 = .ok (.iadd, 1) := by decide +kernel
theorem dX11_gives_36 : decode cX11_gives 36 = .ok (.istore 5, 2) := by decide +kernel
theorem dX11_gives_38 : decode cX11_gives 38 = .ok (.iload 5, 2) := by decide +kernel
theorem dX11_gives_40 : decode cX11_gives 40 = .ok (.sipush 10000, 3) := by decide +kernel
theorem dX11_gives_43 : decode cX11_gives 43 = .ok (.idiv, 1) := by decide +kernel
theorem dX11_gives_44 : decode cX11_gives 44 = .ok (.istore_n 3, 1) := by decide +kernel
theorem dX11_gives_45 : decode cX11_gives 45 = .ok (.aload_n 0, 1) := by decide +kernel
theorem dX11_gives_46 : decode cX11_gives 46 = .ok (.iload_n 2, 1) := by decide +kernel
theorem dX11_gives_47 : decode cX11_gives 47 = .ok (.iload 4, 2) := by decide +kernel
theorem dX11_gives_49 : decode cX11_gives 49 = .ok (.iadd, 1) := by decide +kernel
theorem dX11_gives_50 : decode cX11_gives 50 = .ok (.iload 5, 2) := by decide +kernel
theorem dX11_gives_52 : decode cX11_gives 52 = .ok (.sipush 10000, 3) := by decide +kernel
theorem dX11_gives_55 : decode cX11_gives 55 = .ok (.irem, 1) := by decide +kernel
theorem dX11_gives_56 : decode cX11_gives 56 = .ok (.iastore, 1) := by decide +kernel
theorem dX11_gives_57 : decode cX11_gives 57 = .ok (.iinc 4 1, 3) := by decide +kernel
theorem dX11_gives_60 : decode cX11_gives 60 = .ok (.goto (-55), 3) := by decide +kernel
theorem dX11_gives_63 : decode cX11_gives 63 = .ok (.iload_n 3, 1) := by decide +kernel
theorem dX11_gives_64 : decode cX11_gives 64 = .ok (.ireturn, 1) := by decide +kernel
theorem dX11_number_0 : decode cX11_number 0 = .ok (.lconst 0, 1) := by decide +kernel
theorem dX11_number_1 : decode cX11_number 1 = .ok (.lstore_n 1, 1) := by decide +kernel
theorem dX11_number_2 : decode cX11_number 2 = .ok (.aload_n 0, 1) := by decide +kernel
theorem dX11_number_3 : decode cX11_number 3 = .ok (.getfield 13, 3) := by decide +kernel
theorem dX11_number_6 : decode cX11_number 6 = .ok (.arraylength, 1) := by decide +kernel
theorem dX11_number_7 : decode cX11_number 7 = .ok (.iconst 1, 1) := by decide +kernel
theorem dX11_number_8 : decode cX11_number 8 = .ok (.isub, 1) := by decide +kernel
theorem dX11_number_9 : decode cX11_number 9 = .ok (.istore_n 3, 1) := by decide +kernel
theorem dX11_number_10 : decode cX11_number 10 = .ok (.iload_n 3, 1) := by decide +kernel
theorem dX11_number_11 : decode cX11_number 11 = .ok (.ifCond .lt 23, 3) := by decide +kernel
theorem dX11_number_14 : decode cX11_number 14 = .ok (.lload_n 1, 1) := by decide +kernel
theorem dX11_number_15 : decode cX11_number 15 = .ok (.ldc2_w 17, 3) := by decide +kernel
theorem dX11_number_18 : decode cX11_number 18 = .ok (.lmul, 1) := by decide +kernel
theorem dX11_number_19 : decode cX11_number 19 = .ok (.aload_n 0, 1) := by decide +kernel
theorem dX11_number_20 : decode cX11_number 20 = .ok (.getfield 13, 3) := by decide +kernel
theorem dX11_number_23 : decode cX11_number 23 = .ok (.iload_n 3, 1) := by decide +kernel
theorem dX11_number_24 : decode cX11_number 24 = .ok (.iaload, 1) := by decide +kernel
theorem dX11_number_25 : decode cX11_number 25 = .ok (.i2l, 1) := by decide +kernel
theorem dX11_number_26 : decode cX11_number 26 = .ok (.ladd, 1) := by decide +kernel
theorem dX11_number_27 : decode cX11_number 27 = .ok (.lstore_n 1, 1) := by decide +kernel
theorem dX11_number_28 : decode cX11_number 28 = .ok (.iinc 3 (-1), 3) := by decide +kernel
theorem dX11_number_31 : decode cX11_number 31 = .ok (.goto (-21), 3) := by decide +kernel
theorem dX11_number_34 : decode cX11_number 34 = .ok (.aload_n 0, 1) := by decide +kernel
theorem dX11_number_35 : decode cX11_number 35 = .ok (.getfield 7, 3) := by decide +kernel
theorem dX11_number_38 : decode cX11_number 38 = .ok (.ifCond .ge 8, 3) := by decide +kernel
theorem dX11_number_41 : decode cX11_number 41 = .ok (.lload_n 1, 1) := by decide +kernel
theorem dX11_number_42 : decode cX11_number 42 = .ok (.lneg, 1) := by decide +kernel
theorem dX11_number_43 : decode cX11_number 43 = .ok (.goto 4, 3) := by decide +kernel
theorem dX11_number_46 : decode cX11_number 46 = .ok (.lload_n 1, 1) := by decide +kernel
theorem dX11_number_47 : decode cX11_number 47 = .ok (.lreturn, 1) := by decide +kernel
