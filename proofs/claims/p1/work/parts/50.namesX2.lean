-- printed rows that the walks use
theorem dX2_add_0 : decode cX2_add 0 = .ok (.aload_n 0, 1) := by decide +kernel
theorem dX2_add_1 : decode cX2_add 1 = .ok (.getfield 9, 3) := by decide +kernel
theorem dX2_add_10 : decode cX2_add 10 = .ok (.aload_n 0, 1) := by decide +kernel
theorem dX2_add_11 : decode cX2_add 11 = .ok (.dup, 1) := by decide +kernel
theorem dX2_add_12 : decode cX2_add 12 = .ok (.getfield 25, 3) := by decide +kernel
theorem dX2_add_15 : decode cX2_add 15 = .ok (.iconst 1, 1) := by decide +kernel
theorem dX2_add_16 : decode cX2_add 16 = .ok (.iadd, 1) := by decide +kernel
theorem dX2_add_17 : decode cX2_add 17 = .ok (.putfield 25, 3) := by decide +kernel
theorem dX2_add_20 : decode cX2_add 20 = .ok (.aload_n 0, 1) := by decide +kernel
theorem dX2_add_21 : decode cX2_add 21 = .ok (.getfield 25, 3) := by decide +kernel
theorem dX2_add_24 : decode cX2_add 24 = .ok (.ireturn, 1) := by decide +kernel
theorem dX2_add_4 : decode cX2_add 4 = .ok (.aload_n 0, 1) := by decide +kernel
theorem dX2_add_5 : decode cX2_add 5 = .ok (.getfield 25, 3) := by decide +kernel
theorem dX2_add_8 : decode cX2_add 8 = .ok (.iload_n 1, 1) := by decide +kernel
theorem dX2_add_9 : decode cX2_add 9 = .ok (.iastore, 1) := by decide +kernel
theorem dX2_clear_0 : decode cX2_clear 0 = .ok (.aload_n 0, 1) := by decide +kernel
theorem dX2_clear_1 : decode cX2_clear 1 = .ok (.getfield 25, 3) := by decide +kernel
theorem dX2_clear_10 : decode cX2_clear 10 = .ok (.iload_n 1, 1) := by decide +kernel
theorem dX2_clear_11 : decode cX2_clear 11 = .ok (.ireturn, 1) := by decide +kernel
theorem dX2_clear_4 : decode cX2_clear 4 = .ok (.istore_n 1, 1) := by decide +kernel
theorem dX2_clear_5 : decode cX2_clear 5 = .ok (.aload_n 0, 1) := by decide +kernel
theorem dX2_clear_6 : decode cX2_clear 6 = .ok (.iconst 0, 1) := by decide +kernel
theorem dX2_clear_7 : decode cX2_clear 7 = .ok (.putfield 25, 3) := by decide +kernel
theorem dX2_init_0 : decode cX2_init 0 = .ok (.aload_n 0, 1) := by decide +kernel
theorem dX2_init_1 : decode cX2_init 1 = .ok (.invokespecial 3, 3) := by decide +kernel
theorem dX2_init_12 : decode cX2_init 12 = .ok (.aload_n 0, 1) := by decide +kernel
theorem dX2_init_13 : decode cX2_init 13 = .ok (.new 15, 3) := by decide +kernel
theorem dX2_init_16 : decode cX2_init 16 = .ok (.dup, 1) := by decide +kernel
theorem dX2_init_17 : decode cX2_init 17 = .ok (.invokespecial 17, 3) := by decide +kernel
theorem dX2_init_20 : decode cX2_init 20 = .ok (.putfield 18, 3) := by decide +kernel
theorem dX2_init_23 : decode cX2_init 23 = .ok (.aload_n 0, 1) := by decide +kernel
theorem dX2_init_24 : decode cX2_init 24 = .ok (.new 15, 3) := by decide +kernel
theorem dX2_init_27 : decode cX2_init 27 = .ok (.dup, 1) := by decide +kernel
theorem dX2_init_28 : decode cX2_init 28 = .ok (.invokespecial 17, 3) := by decide +kernel
theorem dX2_init_31 : decode cX2_init 31 = .ok (.putfield 22, 3) := by decide +kernel
theorem dX2_init_34 : decode cX2_init 34 = .ok (.aload_n 0, 1) := by decide +kernel
theorem dX2_init_35 : decode cX2_init 35 = .ok (.iconst 0, 1) := by decide +kernel
theorem dX2_init_36 : decode cX2_init 36 = .ok (.putfield 25, 3) := by decide +kernel
theorem dX2_init_39 : decode cX2_init 39 = .ok (.return_, 1) := by decide +kernel
theorem dX2_init_4 : decode cX2_init 4 = .ok (.aload_n 0, 1) := by decide +kernel
theorem dX2_init_5 : decode cX2_init 5 = .ok (.bipush 30, 2) := by decide +kernel
theorem dX2_init_7 : decode cX2_init 7 = .ok (.newarray .int, 2) := by decide +kernel
theorem dX2_init_9 : decode cX2_init 9 = .ok (.putfield 9, 3) := by decide +kernel
theorem dX2_isSumShared_0 : decode cX2_isSumShared 0 = .ok (.aload_n 0, 1) := by decide +kernel
theorem dX2_isSumShared_1 : decode cX2_isSumShared 1 = .ok (.getfield 25, 3) := by decide +kernel
theorem dX2_isSumShared_4 : decode cX2_isSumShared 4 = .ok (.ifCond .ne 5, 3) := by decide +kernel
theorem dX2_isSumShared_7 : decode cX2_isSumShared 7 = .ok (.iconst 1, 1) := by decide +kernel
theorem dX2_isSumShared_8 : decode cX2_isSumShared 8 = .ok (.ireturn, 1) := by decide +kernel
theorem dX2_mostLeftNext_0 : decode cX2_mostLeftNext 0 = .ok (.aload_n 0, 1) := by decide +kernel
theorem dX2_mostLeftNext_1 : decode cX2_mostLeftNext 1 = .ok (.getfield 25, 3) := by decide +kernel
theorem dX2_mostLeftNext_23 : decode cX2_mostLeftNext 23 = .ok (.ireturn, 1) := by decide +kernel
theorem dX2_mostLeftNext_4 : decode cX2_mostLeftNext 4 = .ok (.ifCond .ne 8, 3) := by decide +kernel
theorem dX2_mostLeftNext_7 : decode cX2_mostLeftNext 7 = .ok (.ldc 29, 2) := by decide +kernel
theorem dX2_mostLeftNext_9 : decode cX2_mostLeftNext 9 = .ok (.goto 14, 3) := by decide +kernel
theorem dX6_add_0 : decode cX6_add 0 = .ok (.aload_n 0, 1) := by decide +kernel
theorem dX6_add_1 : decode cX6_add 1 = .ok (.getfield 9, 3) := by decide +kernel
theorem dX6_add_10 : decode cX6_add 10 = .ok (.aload_n 0, 1) := by decide +kernel
theorem dX6_add_11 : decode cX6_add 11 = .ok (.dup, 1) := by decide +kernel
theorem dX6_add_12 : decode cX6_add 12 = .ok (.getfield 15, 3) := by decide +kernel
theorem dX6_add_15 : decode cX6_add 15 = .ok (.iconst 1, 1) := by decide +kernel
theorem dX6_add_16 : decode cX6_add 16 = .ok (.iadd, 1) := by decide +kernel
theorem dX6_add_17 : decode cX6_add 17 = .ok (.putfield 15, 3) := by decide +kernel
theorem dX6_add_20 : decode cX6_add 20 = .ok (.aload_n 0, 1) := by decide +kernel
theorem dX6_add_21 : decode cX6_add 21 = .ok (.getfield 15, 3) := by decide +kernel
theorem dX6_add_24 : decode cX6_add 24 = .ok (.ireturn, 1) := by decide +kernel
theorem dX6_add_4 : decode cX6_add 4 = .ok (.aload_n 0, 1) := by decide +kernel
theorem dX6_add_5 : decode cX6_add 5 = .ok (.getfield 15, 3) := by decide +kernel
theorem dX6_add_8 : decode cX6_add 8 = .ok (.iload_n 1, 1) := by decide +kernel
theorem dX6_add_9 : decode cX6_add 9 = .ok (.iastore, 1) := by decide +kernel
theorem dX6_allWeights_0 : decode cX6_allWeights 0 = .ok (.lconst 0, 1) := by decide +kernel
theorem dX6_allWeights_1 : decode cX6_allWeights 1 = .ok (.lstore_n 1, 1) := by decide +kernel
theorem dX6_allWeights_2 : decode cX6_allWeights 2 = .ok (.iconst 0, 1) := by decide +kernel
theorem dX6_allWeights_28 : decode cX6_allWeights 28 = .ok (.lload_n 1, 1) := by decide +kernel
theorem dX6_allWeights_29 : decode cX6_allWeights 29 = .ok (.lreturn, 1) := by decide +kernel
theorem dX6_allWeights_3 : decode cX6_allWeights 3 = .ok (.istore_n 3, 1) := by decide +kernel
theorem dX6_allWeights_4 : decode cX6_allWeights 4 = .ok (.iload_n 3, 1) := by decide +kernel
theorem dX6_allWeights_5 : decode cX6_allWeights 5 = .ok (.aload_n 0, 1) := by decide +kernel
theorem dX6_allWeights_6 : decode cX6_allWeights 6 = .ok (.getfield 15, 3) := by decide +kernel
theorem dX6_allWeights_9 : decode cX6_allWeights 9 = .ok (.if_icmp .ge 19, 3) := by decide +kernel
theorem dX6_clear_0 : decode cX6_clear 0 = .ok (.aload_n 0, 1) := by decide +kernel
theorem dX6_clear_1 : decode cX6_clear 1 = .ok (.getfield 15, 3) := by decide +kernel
theorem dX6_clear_10 : decode cX6_clear 10 = .ok (.iload_n 1, 1) := by decide +kernel
theorem dX6_clear_11 : decode cX6_clear 11 = .ok (.ireturn, 1) := by decide +kernel
theorem dX6_clear_4 : decode cX6_clear 4 = .ok (.istore_n 1, 1) := by decide +kernel
theorem dX6_clear_5 : decode cX6_clear 5 = .ok (.aload_n 0, 1) := by decide +kernel
theorem dX6_clear_6 : decode cX6_clear 6 = .ok (.iconst 0, 1) := by decide +kernel
theorem dX6_clear_7 : decode cX6_clear 7 = .ok (.putfield 15, 3) := by decide +kernel
theorem dX6_init_0 : decode cX6_init 0 = .ok (.aload_n 0, 1) := by decide +kernel
theorem dX6_init_1 : decode cX6_init 1 = .ok (.invokespecial 3, 3) := by decide +kernel
theorem dX6_init_12 : decode cX6_init 12 = .ok (.aload_n 0, 1) := by decide +kernel
theorem dX6_init_13 : decode cX6_init 13 = .ok (.iconst 0, 1) := by decide +kernel
theorem dX6_init_14 : decode cX6_init 14 = .ok (.putfield 15, 3) := by decide +kernel
theorem dX6_init_17 : decode cX6_init 17 = .ok (.return_, 1) := by decide +kernel
theorem dX6_init_4 : decode cX6_init 4 = .ok (.aload_n 0, 1) := by decide +kernel
theorem dX6_init_5 : decode cX6_init 5 = .ok (.bipush 12, 2) := by decide +kernel
theorem dX6_init_7 : decode cX6_init 7 = .ok (.newarray .int, 2) := by decide +kernel
theorem dX6_init_9 : decode cX6_init 9 = .ok (.putfield 9, 3) := by decide +kernel
theorem dX6_isPartedWhole_0 : decode cX6_isPartedWhole 0 = .ok (.aload_n 0, 1) := by decide +kernel
theorem dX6_isPartedWhole_1 : decode cX6_isPartedWhole 1 = .ok (.invokevirtual 19, 3) := by decide +kernel
theorem dX6_isPartedWhole_10 : decode cX6_isPartedWhole 10 = .ok (.ireturn, 1) := by decide +kernel
theorem dX6_isPartedWhole_4 : decode cX6_isPartedWhole 4 = .ok (.lconst 0, 1) := by decide +kernel
theorem dX6_isPartedWhole_5 : decode cX6_isPartedWhole 5 = .ok (.lcmp, 1) := by decide +kernel
theorem dX6_isPartedWhole_6 : decode cX6_isPartedWhole 6 = .ok (.ifCond .ne 5, 3) := by decide +kernel
theorem dX6_isPartedWhole_9 : decode cX6_isPartedWhole 9 = .ok (.iconst 1, 1) := by decide +kernel
theorem dX7_add_0 : decode cX7_add 0 = .ok (.aload_n 0, 1) := by decide +kernel
theorem dX7_add_1 : decode cX7_add 1 = .ok (.getfield 9, 3) := by decide +kernel
theorem dX7_add_10 : decode cX7_add 10 = .ok (.aload_n 0, 1) := by decide +kernel
theorem dX7_add_11 : decode cX7_add 11 = .ok (.getfield 15, 3) := by decide +kernel
theorem dX7_add_14 : decode cX7_add 14 = .ok (.aload_n 0, 1) := by decide +kernel
theorem dX7_add_15 : decode cX7_add 15 = .ok (.getfield 19, 3) := by decide +kernel
theorem dX7_add_18 : decode cX7_add 18 = .ok (.iload_n 3, 1) := by decide +kernel
theorem dX7_add_19 : decode cX7_add 19 = .ok (.iastore, 1) := by decide +kernel
theorem dX7_add_20 : decode cX7_add 20 = .ok (.aload_n 0, 1) := by decide +kernel
theorem dX7_add_21 : decode cX7_add 21 = .ok (.dup, 1) := by decide +kernel
theorem dX7_add_22 : decode cX7_add 22 = .ok (.getfield 19, 3) := by decide +kernel
theorem dX7_add_25 : decode cX7_add 25 = .ok (.iconst 1, 1) := by decide +kernel
theorem dX7_add_26 : decode cX7_add 26 = .ok (.iadd, 1) := by decide +kernel
theorem dX7_add_27 : decode cX7_add 27 = .ok (.putfield 19, 3) := by decide +kernel
theorem dX7_add_30 : decode cX7_add 30 = .ok (.aload_n 0, 1) := by decide +kernel
theorem dX7_add_31 : decode cX7_add 31 = .ok (.getfield 19, 3) := by decide +kernel
theorem dX7_add_34 : decode cX7_add 34 = .ok (.ireturn, 1) := by decide +kernel
theorem dX7_add_4 : decode cX7_add 4 = .ok (.aload_n 0, 1) := by decide +kernel
theorem dX7_add_5 : decode cX7_add 5 = .ok (.getfield 19, 3) := by decide +kernel
theorem dX7_add_8 : decode cX7_add 8 = .ok (.lload_n 1, 1) := by decide +kernel
theorem dX7_add_9 : decode cX7_add 9 = .ok (.lastore, 1) := by decide +kernel
theorem dX7_clear_0 : decode cX7_clear 0 = .ok (.aload_n 0, 1) := by decide +kernel
theorem dX7_clear_1 : decode cX7_clear 1 = .ok (.getfield 19, 3) := by decide +kernel
theorem dX7_clear_10 : decode cX7_clear 10 = .ok (.iload_n 1, 1) := by decide +kernel
theorem dX7_clear_11 : decode cX7_clear 11 = .ok (.ireturn, 1) := by decide +kernel
theorem dX7_clear_4 : decode cX7_clear 4 = .ok (.istore_n 1, 1) := by decide +kernel
theorem dX7_clear_5 : decode cX7_clear 5 = .ok (.aload_n 0, 1) := by decide +kernel
theorem dX7_clear_6 : decode cX7_clear 6 = .ok (.iconst 0, 1) := by decide +kernel
theorem dX7_clear_7 : decode cX7_clear 7 = .ok (.putfield 19, 3) := by decide +kernel
theorem dX7_init_0 : decode cX7_init 0 = .ok (.aload_n 0, 1) := by decide +kernel
theorem dX7_init_1 : decode cX7_init 1 = .ok (.invokespecial 3, 3) := by decide +kernel
theorem dX7_init_12 : decode cX7_init 12 = .ok (.aload_n 0, 1) := by decide +kernel
theorem dX7_init_13 : decode cX7_init 13 = .ok (.bipush 8, 2) := by decide +kernel
theorem dX7_init_15 : decode cX7_init 15 = .ok (.newarray .int, 2) := by decide +kernel
theorem dX7_init_17 : decode cX7_init 17 = .ok (.putfield 15, 3) := by decide +kernel
theorem dX7_init_20 : decode cX7_init 20 = .ok (.aload_n 0, 1) := by decide +kernel
theorem dX7_init_21 : decode cX7_init 21 = .ok (.iconst 0, 1) := by decide +kernel
theorem dX7_init_22 : decode cX7_init 22 = .ok (.putfield 19, 3) := by decide +kernel
theorem dX7_init_25 : decode cX7_init 25 = .ok (.return_, 1) := by decide +kernel
theorem dX7_init_4 : decode cX7_init 4 = .ok (.aload_n 0, 1) := by decide +kernel
theorem dX7_init_5 : decode cX7_init 5 = .ok (.bipush 8, 2) := by decide +kernel
theorem dX7_init_7 : decode cX7_init 7 = .ok (.newarray .long, 2) := by decide +kernel
theorem dX7_init_9 : decode cX7_init 9 = .ok (.putfield 9, 3) := by decide +kernel
theorem dX7_isLeaving_0 : decode cX7_isLeaving 0 = .ok (.lload_n 1, 1) := by decide +kernel
theorem dX7_isLeaving_1 : decode cX7_isLeaving 1 = .ok (.ldc2_w 43, 3) := by decide +kernel
theorem dX7_isLeaving_10 : decode cX7_isLeaving 10 = .ok (.lsub, 1) := by decide +kernel
theorem dX7_isLeaving_11 : decode cX7_isLeaving 11 = .ok (.lload_n 3, 1) := by decide +kernel
theorem dX7_isLeaving_12 : decode cX7_isLeaving 12 = .ok (.ldc2_w 43, 3) := by decide +kernel
theorem dX7_isLeaving_15 : decode cX7_isLeaving 15 = .ok (.lmul, 1) := by decide +kernel
theorem dX7_isLeaving_16 : decode cX7_isLeaving 16 = .ok (.lcmp, 1) := by decide +kernel
theorem dX7_isLeaving_17 : decode cX7_isLeaving 17 = .ok (.ifCond .lt 7, 3) := by decide +kernel
theorem dX7_isLeaving_20 : decode cX7_isLeaving 20 = .ok (.iconst 1, 1) := by decide +kernel
theorem dX7_isLeaving_21 : decode cX7_isLeaving 21 = .ok (.goto 4, 3) := by decide +kernel
theorem dX7_isLeaving_24 : decode cX7_isLeaving 24 = .ok (.iconst 0, 1) := by decide +kernel
theorem dX7_isLeaving_25 : decode cX7_isLeaving 25 = .ok (.ireturn, 1) := by decide +kernel
theorem dX7_isLeaving_4 : decode cX7_isLeaving 4 = .ok (.lmul, 1) := by decide +kernel
theorem dX7_isLeaving_5 : decode cX7_isLeaving 5 = .ok (.aload_n 0, 1) := by decide +kernel
theorem dX7_isLeaving_6 : decode cX7_isLeaving 6 = .ok (.lload_n 1, 1) := by decide +kernel
theorem dX7_isLeaving_7 : decode cX7_isLeaving 7 = .ok (.invokevirtual 45, 3) := by decide +kernel
theorem dX7_leastLeaving_0 : decode cX7_leastLeaving 0 = .ok (.aload_n 0, 1) := by decide +kernel
theorem dX7_leastLeaving_1 : decode cX7_leastLeaving 1 = .ok (.ldc2_w 32, 3) := by decide +kernel
theorem dX7_leastLeaving_15 : decode cX7_leastLeaving 15 = .ok (.lconst 0, 1) := by decide +kernel
theorem dX7_leastLeaving_16 : decode cX7_leastLeaving 16 = .ok (.lstore_n 3, 1) := by decide +kernel
theorem dX7_leastLeaving_17 : decode cX7_leastLeaving 17 = .ok (.ldc2_w 32, 3) := by decide +kernel
theorem dX7_leastLeaving_20 : decode cX7_leastLeaving 20 = .ok (.lstore 5, 2) := by decide +kernel
theorem dX7_leastLeaving_22 : decode cX7_leastLeaving 22 = .ok (.iconst 0, 1) := by decide +kernel
theorem dX7_leastLeaving_23 : decode cX7_leastLeaving 23 = .ok (.istore 7, 2) := by decide +kernel
theorem dX7_leastLeaving_25 : decode cX7_leastLeaving 25 = .ok (.iload 7, 2) := by decide +kernel
theorem dX7_leastLeaving_27 : decode cX7_leastLeaving 27 = .ok (.ldc 40, 2) := by decide +kernel
theorem dX7_leastLeaving_29 : decode cX7_leastLeaving 29 = .ok (.if_icmp .ge 48, 3) := by decide +kernel
theorem dX7_leastLeaving_32 : decode cX7_leastLeaving 32 = .ok (.lload_n 3, 1) := by decide +kernel
theorem dX7_leastLeaving_33 : decode cX7_leastLeaving 33 = .ok (.lload 5, 2) := by decide +kernel
theorem dX7_leastLeaving_35 : decode cX7_leastLeaving 35 = .ok (.lcmp, 1) := by decide +kernel
theorem dX7_leastLeaving_36 : decode cX7_leastLeaving 36 = .ok (.ifCond .ge 41, 3) := by decide +kernel
theorem dX7_leastLeaving_39 : decode cX7_leastLeaving 39 = .ok (.lload_n 3, 1) := by decide +kernel
theorem dX7_leastLeaving_4 : decode cX7_leastLeaving 4 = .ok (.lload_n 1, 1) := by decide +kernel
theorem dX7_leastLeaving_40 : decode cX7_leastLeaving 40 = .ok (.lload 5, 2) := by decide +kernel
theorem dX7_leastLeaving_42 : decode cX7_leastLeaving 42 = .ok (.ladd, 1) := by decide +kernel
theorem dX7_leastLeaving_43 : decode cX7_leastLeaving 43 = .ok (.ldc2_w 41, 3) := by decide +kernel
theorem dX7_leastLeaving_46 : decode cX7_leastLeaving 46 = .ok (.ldiv, 1) := by decide +kernel
theorem dX7_leastLeaving_47 : decode cX7_leastLeaving 47 = .ok (.lstore 8, 2) := by decide +kernel
theorem dX7_leastLeaving_49 : decode cX7_leastLeaving 49 = .ok (.aload_n 0, 1) := by decide +kernel
theorem dX7_leastLeaving_5 : decode cX7_leastLeaving 5 = .ok (.invokevirtual 34, 3) := by decide +kernel
theorem dX7_leastLeaving_50 : decode cX7_leastLeaving 50 = .ok (.lload 8, 2) := by decide +kernel
theorem dX7_leastLeaving_52 : decode cX7_leastLeaving 52 = .ok (.lload_n 1, 1) := by decide +kernel
theorem dX7_leastLeaving_53 : decode cX7_leastLeaving 53 = .ok (.invokevirtual 34, 3) := by decide +kernel
theorem dX7_leastLeaving_56 : decode cX7_leastLeaving 56 = .ok (.ifCond .eq 10, 3) := by decide +kernel
theorem dX7_leastLeaving_59 : decode cX7_leastLeaving 59 = .ok (.lload 8, 2) := by decide +kernel
theorem dX7_leastLeaving_61 : decode cX7_leastLeaving 61 = .ok (.lstore 5, 2) := by decide +kernel
theorem dX7_leastLeaving_63 : decode cX7_leastLeaving 63 = .ok (.goto 8, 3) := by decide +kernel
theorem dX7_leastLeaving_66 : decode cX7_leastLeaving 66 = .ok (.lload 8, 2) := by decide +kernel
theorem dX7_leastLeaving_68 : decode cX7_leastLeaving 68 = .ok (.lconst 1, 1) := by decide +kernel
theorem dX7_leastLeaving_69 : decode cX7_leastLeaving 69 = .ok (.ladd, 1) := by decide +kernel
theorem dX7_leastLeaving_70 : decode cX7_leastLeaving 70 = .ok (.lstore_n 3, 1) := by decide +kernel
theorem dX7_leastLeaving_71 : decode cX7_leastLeaving 71 = .ok (.iinc 7 1, 3) := by decide +kernel
theorem dX7_leastLeaving_74 : decode cX7_leastLeaving 74 = .ok (.goto (-49), 3) := by decide +kernel
theorem dX7_leastLeaving_77 : decode cX7_leastLeaving 77 = .ok (.lload_n 3, 1) := by decide +kernel
theorem dX7_leastLeaving_78 : decode cX7_leastLeaving 78 = .ok (.lreturn, 1) := by decide +kernel
theorem dX7_leastLeaving_8 : decode cX7_leastLeaving 8 = .ok (.ifCond .ne 7, 3) := by decide +kernel
theorem dX7_leastNextFrom_0 : decode cX7_leastNextFrom 0 = .ok (.aload_n 0, 1) := by decide +kernel
theorem dX7_leastNextFrom_1 : decode cX7_leastNextFrom 1 = .ok (.getfield 19, 3) := by decide +kernel
theorem dX7_leastNextFrom_24 : decode cX7_leastNextFrom 24 = .ok (.lreturn, 1) := by decide +kernel
theorem dX7_leastNextFrom_4 : decode cX7_leastNextFrom 4 = .ok (.ifCond .ne 7, 3) := by decide +kernel
theorem dX7_leastNextFrom_7 : decode cX7_leastNextFrom 7 = .ok (.lconst 0, 1) := by decide +kernel
theorem dX7_leastNextFrom_8 : decode cX7_leastNextFrom 8 = .ok (.goto 16, 3) := by decide +kernel
theorem dX7_thousandfoldOf_0 : decode cX7_thousandfoldOf 0 = .ok (.lconst 0, 1) := by decide +kernel
theorem dX7_thousandfoldOf_1 : decode cX7_thousandfoldOf 1 = .ok (.lstore_n 3, 1) := by decide +kernel
theorem dX7_thousandfoldOf_11 : decode cX7_thousandfoldOf 11 = .ok (.if_icmp .ge 65, 3) := by decide +kernel
theorem dX7_thousandfoldOf_2 : decode cX7_thousandfoldOf 2 = .ok (.iconst 0, 1) := by decide +kernel
theorem dX7_thousandfoldOf_3 : decode cX7_thousandfoldOf 3 = .ok (.istore 5, 2) := by decide +kernel
theorem dX7_thousandfoldOf_5 : decode cX7_thousandfoldOf 5 = .ok (.iload 5, 2) := by decide +kernel
theorem dX7_thousandfoldOf_7 : decode cX7_thousandfoldOf 7 = .ok (.aload_n 0, 1) := by decide +kernel
theorem dX7_thousandfoldOf_76 : decode cX7_thousandfoldOf 76 = .ok (.lload_n 3, 1) := by decide +kernel
theorem dX7_thousandfoldOf_77 : decode cX7_thousandfoldOf 77 = .ok (.lreturn, 1) := by decide +kernel
theorem dX7_thousandfoldOf_8 : decode cX7_thousandfoldOf 8 = .ok (.getfield 19, 3) := by decide +kernel
set_option maxRecDepth 20000 in
theorem ggX2_init_X1_init : GoodIn wsX2_init wsX1_init := goodIn_r _ [13, 14, 2, 3, 15, 16, 17, 18, 19, 20, 21, 22, 23, 24, 25, 26, 27, 28, 29, 30, 41, 42, 43, 35, 36, 37, 38, 39, 40] (by decide +kernel) (by decide +kernel)
set_option maxRecDepth 20000 in
theorem gX2_init_X1_init_n17 : GoodIn wsX2_init (wsX1_init) := ggX2_init_X1_init
set_option maxRecDepth 20000 in
theorem ggX6_isPartedWhole_X6_allWeights : GoodIn wsX6_isPartedWhole wsX6_allWeights := goodIn_r _ [6, 1, 7, 12, 13] (by decide +kernel) (by decide +kernel)
set_option maxRecDepth 20000 in
theorem gX6_isPartedWhole_X6_allWeights : GoodIn wsX6_isPartedWhole (wsV RX6 19 RX6 yX6_allWeights wsX6_allWeights) := goodIn_app (goodIn_of _ (by decide +kernel)) ggX6_isPartedWhole_X6_allWeights
set_option maxRecDepth 20000 in
theorem ggX7_isLeaving_X7_thousandfoldOf : GoodIn wsX7_isLeaving wsX7_thousandfoldOf := goodIn_r _ [6, 7, 8, 9, 10, 11, 12, 13, 14, 15, 16, 17, 18, 19] (by decide +kernel) (by decide +kernel)
set_option maxRecDepth 20000 in
theorem gX7_isLeaving_X7_thousandfoldOf : GoodIn wsX7_isLeaving (wsV RX7 45 RX7 yX7_thousandfoldOf wsX7_thousandfoldOf) := goodIn_app (goodIn_of _ (by decide +kernel)) ggX7_isLeaving_X7_thousandfoldOf
set_option maxRecDepth 20000 in
theorem ggX7_leastLeaving_X7_isLeaving : GoodIn wsX7_leastLeaving wsX7_isLeaving := goodIn_r _ [9, 10, 11, 12, 13, 8, 14, 15, 16, 17, 18, 19, 20, 21, 22, 23, 24, 25, 26, 27] (by decide +kernel) (by decide +kernel)
set_option maxRecDepth 20000 in
theorem gX7_leastLeaving_X7_isLeaving : GoodIn wsX7_leastLeaving (wsV RX7 34 RX7 yX7_isLeaving wsX7_isLeaving) := goodIn_app (goodIn_of _ (by decide +kernel)) ggX7_leastLeaving_X7_isLeaving
