-- printed rows that the walks use
theorem dX6_add_0 : decode cX6_add 0 = .ok (.aload_n 0, 1) := by decide +kernel
theorem dX6_add_1 : decode cX6_add 1 = .ok (.getfield 9, 3) := by decide +kernel
theorem dX6_add_10 : decode cX6_add 10 = .ok (.aload_n 0, 1) := by decide +kernel
theorem dX6_add_11 : decode cX6_add 11 = .ok (.dup, 1) := by decide +kernel
theorem dX6_add_12 : decode cX6_add 12 = .ok (.getfield 15, 3) := by decide +kernel
theorem dX6_add_15 : decode cX6_add 15 = .ok (.iconst 1, 1) := by decide +kernel
theorem dX6_add_16 : decode cX6_add 16 = .ok (.iadd, 1) := by decide +kernel
theorem dX6_add_17 : decode cX6_add 17 = .ok (.putfield 15, 3) := by decide +kernel
theorem dX6_add_20 : decode cX6_add 20 = .ok (.aload_n 0, 1) := by decide +kernel
theorem dX6_add_21 : decode cX6_add 21 = .ok (.getfield 15, 3) := by decide +kernel
theorem dX6_add_24 : decode cX6_add 24 = .ok (.ireturn, 1) := by decide +kernel
theorem dX6_add_4 : decode cX6_add 4 = .ok (.aload_n 0, 1) := by decide +kernel
theorem dX6_add_5 : decode cX6_add 5 = .ok (.getfield 15, 3) := by decide +kernel
theorem dX6_add_8 : decode cX6_add 8 = .ok (.iload_n 1, 1) := by decide +kernel
theorem dX6_add_9 : decode cX6_add 9 = .ok (.iastore, 1) := by decide +kernel
theorem dX6_allWeights_0 : decode cX6_allWeights 0 = .ok (.lconst 0, 1) := by decide +kernel
theorem dX6_allWeights_1 : decode cX6_allWeights 1 = .ok (.lstore_n 1, 1) := by decide +kernel
theorem dX6_allWeights_12 : decode cX6_allWeights 12 = .ok (.lload_n 1, 1) := by decide +kernel
theorem dX6_allWeights_13 : decode cX6_allWeights 13 = .ok (.aload_n 0, 1) := by decide +kernel
theorem dX6_allWeights_14 : decode cX6_allWeights 14 = .ok (.getfield 9, 3) := by decide +kernel
theorem dX6_allWeights_17 : decode cX6_allWeights 17 = .ok (.iload_n 3, 1) := by decide +kernel
theorem dX6_allWeights_18 : decode cX6_allWeights 18 = .ok (.iaload, 1) := by decide +kernel
theorem dX6_allWeights_19 : decode cX6_allWeights 19 = .ok (.i2l, 1) := by decide +kernel
theorem dX6_allWeights_2 : decode cX6_allWeights 2 = .ok (.iconst 0, 1) := by decide +kernel
theorem dX6_allWeights_20 : decode cX6_allWeights 20 = .ok (.ladd, 1) := by decide +kernel
theorem dX6_allWeights_21 : decode cX6_allWeights 21 = .ok (.lstore_n 1, 1) := by decide +kernel
theorem dX6_allWeights_22 : decode cX6_allWeights 22 = .ok (.iinc 3 1, 3) := by decide +kernel
theorem dX6_allWeights_25 : decode cX6_allWeights 25 = .ok (.goto (-21), 3) := by decide +kernel
theorem dX6_allWeights_28 : decode cX6_allWeights 28 = .ok (.lload_n 1, 1) := by decide +kernel
theorem dX6_allWeights_29 : decode cX6_allWeights 29 = .ok (.lreturn, 1) := by decide +kernel
theorem dX6_allWeights_3 : decode cX6_allWeights 3 = .ok (.istore_n 3, 1) := by decide +kernel
theorem dX6_allWeights_4 : decode cX6_allWeights 4 = .ok (.iload_n 3, 1) := by decide +kernel
theorem dX6_allWeights_5 : decode cX6_allWeights 5 = .ok (.aload_n 0, 1) := by decide +kernel
theorem dX6_allWeights_6 : decode cX6_allWeights 6 = .ok (.getfield 15, 3) := by decide +kernel
theorem dX6_allWeights_9 : decode cX6_allWeights 9 = .ok (.if_icmp .ge 19, 3) := by decide +kernel
theorem dX6_clear_0 : decode cX6_clear 0 = .ok (.aload_n 0, 1) := by decide +kernel
theorem dX6_clear_1 : decode cX6_clear 1 = .ok (.getfield 15, 3) := by decide +kernel
theorem dX6_clear_10 : decode cX6_clear 10 = .ok (.iload_n 1, 1) := by decide +kernel
theorem dX6_clear_11 : decode cX6_clear 11 = .ok (.ireturn, 1) := by decide +kernel
theorem dX6_clear_4 : decode cX6_clear 4 = .ok (.istore_n 1, 1) := by decide +kernel
theorem dX6_clear_5 : decode cX6_clear 5 = .ok (.aload_n 0, 1) := by decide +kernel
theorem dX6_clear_6 : decode cX6_clear 6 = .ok (.iconst 0, 1) := by decide +kernel
theorem dX6_clear_7 : decode cX6_clear 7 = .ok (.putfield 15, 3) := by decide +kernel
theorem dX6_init_0 : decode cX6_init 0 = .ok (.aload_n 0, 1) := by decide +kernel
theorem dX6_init_1 : decode cX6_init 1 = .ok (.invokespecial 3, 3) := by decide +kernel
theorem dX6_init_12 : decode cX6_init 12 = .ok (.aload_n 0, 1) := by decide +kernel
theorem dX6_init_13 : decode cX6_init 13 = .ok (.iconst 0, 1) := by decide +kernel
theorem dX6_init_14 : decode cX6_init 14 = .ok (.putfield 15, 3) := by decide +kernel
theorem dX6_init_17 : decode cX6_init 17 = .ok (.return_, 1) := by decide +kernel
theorem dX6_init_4 : decode cX6_init 4 = .ok (.aload_n 0, 1) := by decide +kernel
theorem dX6_init_5 : decode cX6_init 5 = .ok (.bipush 12, 2) := by decide +kernel
theorem dX6_init_7 : decode cX6_init 7 = .ok (.newarray .int, 2) := by decide +kernel
theorem dX6_init_9 : decode cX6_init 9 = .ok (.putfield 9, 3) := by decide +kernel
theorem dX6_isPartedWhole_0 : decode cX6_isPartedWhole 0 = .ok (.aload_n 0, 1) := by decide +kernel
theorem dX6_isPartedWhole_1 : decode cX6_isPartedWhole 1 = .ok (.invokevirtual 19, 3) := by decide +kernel
theorem dX6_isPartedWhole_10 : decode cX6_isPartedWhole 10 = .ok (.ireturn, 1) := by decide +kernel
theorem dX6_isPartedWhole_4 : decode cX6_isPartedWhole 4 = .ok (.lconst 0, 1) := by decide +kernel
theorem dX6_isPartedWhole_5 : decode cX6_isPartedWhole 5 = .ok (.lcmp, 1) := by decide +kernel
theorem dX6_isPartedWhole_6 : decode cX6_isPartedWhole 6 = .ok (.ifCond .ne 5, 3) := by decide +kernel
theorem dX6_isPartedWhole_9 : decode cX6_isPartedWhole 9 = .ok (.iconst 1, 1) := by decide +kernel
theorem dX6_partOf_0 : decode cX6_partOf 0 = .ok (.aload_n 0, 1) := by decide +kernel
theorem dX6_partOf_1 : decode cX6_partOf 1 = .ok (.invokevirtual 19, 3) := by decide +kernel
theorem dX6_partOf_10 : decode cX6_partOf 10 = .ok (.ifCond .gt 5, 3) := by decide +kernel
theorem dX6_partOf_101 : decode cX6_partOf 101 = .ok (.iinc 11 1, 3) := by decide +kernel
theorem dX6_partOf_104 : decode cX6_partOf 104 = .ok (.goto (-66), 3) := by decide +kernel
theorem dX6_partOf_107 : decode cX6_partOf 107 = .ok (.lload_n 1, 1) := by decide +kernel
theorem dX6_partOf_108 : decode cX6_partOf 108 = .ok (.aload_n 0, 1) := by decide +kernel
theorem dX6_partOf_109 : decode cX6_partOf 109 = .ok (.getfield 9, 3) := by decide +kernel
theorem dX6_partOf_112 : decode cX6_partOf 112 = .ok (.iload_n 3, 1) := by decide +kernel
theorem dX6_partOf_113 : decode cX6_partOf 113 = .ok (.iaload, 1) := by decide +kernel
theorem dX6_partOf_114 : decode cX6_partOf 114 = .ok (.i2l, 1) := by decide +kernel
theorem dX6_partOf_115 : decode cX6_partOf 115 = .ok (.lmul, 1) := by decide +kernel
theorem dX6_partOf_116 : decode cX6_partOf 116 = .ok (.lload 4, 2) := by decide +kernel
theorem dX6_partOf_118 : decode cX6_partOf 118 = .ok (.ldiv, 1) := by decide +kernel
theorem dX6_partOf_119 : decode cX6_partOf 119 = .ok (.iload 10, 2) := by decide +kernel
theorem dX6_partOf_121 : decode cX6_partOf 121 = .ok (.i2l, 1) := by decide +kernel
theorem dX6_partOf_122 : decode cX6_partOf 122 = .ok (.lload 8, 2) := by decide +kernel
theorem dX6_partOf_124 : decode cX6_partOf 124 = .ok (.lload 4, 2) := by decide +kernel
theorem dX6_partOf_126 : decode cX6_partOf 126 = .ok (.ldiv, 1) := by decide +kernel
theorem dX6_partOf_127 : decode cX6_partOf 127 = .ok (.lcmp, 1) := by decide +kernel
theorem dX6_partOf_128 : decode cX6_partOf 128 = .ok (.ifCond .ge 7, 3) := by decide +kernel
theorem dX6_partOf_131 : decode cX6_partOf 131 = .ok (.iconst 1, 1) := by decide +kernel
theorem dX6_partOf_132 : decode cX6_partOf 132 = .ok (.goto 4, 3) := by decide +kernel
theorem dX6_partOf_135 : decode cX6_partOf 135 = .ok (.iconst 0, 1) := by decide +kernel
theorem dX6_partOf_136 : decode cX6_partOf 136 = .ok (.i2l, 1) := by decide +kernel
theorem dX6_partOf_137 : decode cX6_partOf 137 = .ok (.ladd, 1) := by decide +kernel
theorem dX6_partOf_138 : decode cX6_partOf 138 = .ok (.lreturn, 1) := by decide +kernel
theorem dX6_partOf_15 : decode cX6_partOf 15 = .ok (.lload_n 1, 1) := by decide +kernel
theorem dX6_partOf_16 : decode cX6_partOf 16 = .ok (.aload_n 0, 1) := by decide +kernel
theorem dX6_partOf_17 : decode cX6_partOf 17 = .ok (.getfield 9, 3) := by decide +kernel
theorem dX6_partOf_20 : decode cX6_partOf 20 = .ok (.iload_n 3, 1) := by decide +kernel
theorem dX6_partOf_21 : decode cX6_partOf 21 = .ok (.iaload, 1) := by decide +kernel
theorem dX6_partOf_22 : decode cX6_partOf 22 = .ok (.i2l, 1) := by decide +kernel
theorem dX6_partOf_23 : decode cX6_partOf 23 = .ok (.lmul, 1) := by decide +kernel
theorem dX6_partOf_24 : decode cX6_partOf 24 = .ok (.lload 4, 2) := by decide +kernel
theorem dX6_partOf_26 : decode cX6_partOf 26 = .ok (.lrem, 1) := by decide +kernel
theorem dX6_partOf_27 : decode cX6_partOf 27 = .ok (.lstore 6, 2) := by decide +kernel
theorem dX6_partOf_29 : decode cX6_partOf 29 = .ok (.lconst 0, 1) := by decide +kernel
theorem dX6_partOf_30 : decode cX6_partOf 30 = .ok (.lstore 8, 2) := by decide +kernel
theorem dX6_partOf_32 : decode cX6_partOf 32 = .ok (.iconst 0, 1) := by decide +kernel
theorem dX6_partOf_33 : decode cX6_partOf 33 = .ok (.istore 10, 2) := by decide +kernel
theorem dX6_partOf_35 : decode cX6_partOf 35 = .ok (.iconst 0, 1) := by decide +kernel
theorem dX6_partOf_36 : decode cX6_partOf 36 = .ok (.istore 11, 2) := by decide +kernel
theorem dX6_partOf_38 : decode cX6_partOf 38 = .ok (.iload 11, 2) := by decide +kernel
theorem dX6_partOf_4 : decode cX6_partOf 4 = .ok (.lstore 4, 2) := by decide +kernel
theorem dX6_partOf_40 : decode cX6_partOf 40 = .ok (.aload_n 0, 1) := by decide +kernel
theorem dX6_partOf_41 : decode cX6_partOf 41 = .ok (.getfield 15, 3) := by decide +kernel
theorem dX6_partOf_44 : decode cX6_partOf 44 = .ok (.if_icmp .ge 63, 3) := by decide +kernel
theorem dX6_partOf_47 : decode cX6_partOf 47 = .ok (.lload_n 1, 1) := by decide +kernel
theorem dX6_partOf_48 : decode cX6_partOf 48 = .ok (.aload_n 0, 1) := by decide +kernel
theorem dX6_partOf_49 : decode cX6_partOf 49 = .ok (.getfield 9, 3) := by decide +kernel
theorem dX6_partOf_52 : decode cX6_partOf 52 = .ok (.iload 11, 2) := by decide +kernel
theorem dX6_partOf_54 : decode cX6_partOf 54 = .ok (.iaload, 1) := by decide +kernel
theorem dX6_partOf_55 : decode cX6_partOf 55 = .ok (.i2l, 1) := by decide +kernel
theorem dX6_partOf_56 : decode cX6_partOf 56 = .ok (.lmul, 1) := by decide +kernel
theorem dX6_partOf_57 : decode cX6_partOf 57 = .ok (.lload 4, 2) := by decide +kernel
theorem dX6_partOf_59 : decode cX6_partOf 59 = .ok (.lrem, 1) := by decide +kernel
theorem dX6_partOf_6 : decode cX6_partOf 6 = .ok (.lload 4, 2) := by decide +kernel
theorem dX6_partOf_60 : decode cX6_partOf 60 = .ok (.lstore 12, 2) := by decide +kernel
theorem dX6_partOf_62 : decode cX6_partOf 62 = .ok (.lload 8, 2) := by decide +kernel
theorem dX6_partOf_64 : decode cX6_partOf 64 = .ok (.lload 12, 2) := by decide +kernel
theorem dX6_partOf_66 : decode cX6_partOf 66 = .ok (.ladd, 1) := by decide +kernel
theorem dX6_partOf_67 : decode cX6_partOf 67 = .ok (.lstore 8, 2) := by decide +kernel
theorem dX6_partOf_69 : decode cX6_partOf 69 = .ok (.iload 10, 2) := by decide +kernel
theorem dX6_partOf_71 : decode cX6_partOf 71 = .ok (.lload 12, 2) := by decide +kernel
theorem dX6_partOf_73 : decode cX6_partOf 73 = .ok (.lload 6, 2) := by decide +kernel
theorem dX6_partOf_75 : decode cX6_partOf 75 = .ok (.lcmp, 1) := by decide +kernel
theorem dX6_partOf_76 : decode cX6_partOf 76 = .ok (.ifCond .gt 17, 3) := by decide +kernel
theorem dX6_partOf_79 : decode cX6_partOf 79 = .ok (.lload 12, 2) := by decide +kernel
theorem dX6_partOf_8 : decode cX6_partOf 8 = .ok (.lconst 0, 1) := by decide +kernel
theorem dX6_partOf_81 : decode cX6_partOf 81 = .ok (.lload 6, 2) := by decide +kernel
theorem dX6_partOf_83 : decode cX6_partOf 83 = .ok (.lcmp, 1) := by decide +kernel
theorem dX6_partOf_84 : decode cX6_partOf 84 = .ok (.ifCond .ne 13, 3) := by decide +kernel
theorem dX6_partOf_87 : decode cX6_partOf 87 = .ok (.iload 11, 2) := by decide +kernel
theorem dX6_partOf_89 : decode cX6_partOf 89 = .ok (.iload_n 3, 1) := by decide +kernel
theorem dX6_partOf_9 : decode cX6_partOf 9 = .ok (.lcmp, 1) := by decide +kernel
theorem dX6_partOf_90 : decode cX6_partOf 90 = .ok (.if_icmp .ge 7, 3) := by decide +kernel
theorem dX6_partOf_93 : decode cX6_partOf 93 = .ok (.iconst 1, 1) := by decide +kernel
theorem dX6_partOf_94 : decode cX6_partOf 94 = .ok (.goto 4, 3) := by decide +kernel
theorem dX6_partOf_97 : decode cX6_partOf 97 = .ok (.iconst 0, 1) := by decide +kernel
theorem dX6_partOf_98 : decode cX6_partOf 98 = .ok (.iadd, 1) := by decide +kernel
theorem dX6_partOf_99 : decode cX6_partOf 99 = .ok (.istore 10, 2) := by decide +kernel
theorem dX7_add_0 : decode cX7_add 0 = .ok (.aload_n 0, 1) := by decide +kernel
theorem dX7_add_1 : decode cX7_add 1 = .ok (.getfield 9, 3) := by decide +kernel
theorem dX7_add_10 : decode cX7_add 10 = .ok (.aload_n 0, 1) := by decide +kernel
theorem dX7_add_11 : decode cX7_add 11 = .ok (.getfield 15, 3) := by decide +kernel
theorem dX7_add_14 : decode cX7_add 14 = .ok (.aload_n 0, 1) := by decide +kernel
theorem dX7_add_15 : decode cX7_add 15 = .ok (.getfield 19, 3) := by decide +kernel
theorem dX7_add_18 : decode cX7_add 18 = .ok (.iload_n 3, 1) := by decide +kernel
theorem dX7_add_19 : decode cX7_add 19 = .ok (.iastore, 1) := by decide +kernel
theorem dX7_add_20 : decode cX7_add 20 = .ok (.aload_n 0, 1) := by decide +kernel
theorem dX7_add_21 : decode cX7_add 21 = .ok (.dup, 1) := by decide +kernel
theorem dX7_add_22 : decode cX7_add 22 = .ok (.getfield 19, 3) := by decide +kernel
theorem dX7_add_25 : decode cX7_add 25 = .ok (.iconst 1, 1) := by decide +kernel
theorem dX7_add_26 : decode cX7_add 26 = .ok (.iadd, 1) := by decide +kernel
theorem dX7_add_27 : decode cX7_add 27 = .ok (.putfield 19, 3) := by decide +kernel
theorem dX7_add_30 : decode cX7_add 30 = .ok (.aload_n 0, 1) := by decide +kernel
theorem dX7_add_31 : decode cX7_add 31 = .ok (.getfield 19, 3) := by decide +kernel
theorem dX7_add_34 : decode cX7_add 34 = .ok (.ireturn, 1) := by decide +kernel
theorem dX7_add_4 : decode cX7_add 4 = .ok (.aload_n 0, 1) := by decide +kernel
theorem dX7_add_5 : decode cX7_add 5 = .ok (.getfield 19, 3) := by decide +kernel
theorem dX7_add_8 : decode cX7_add 8 = .ok (.lload_n 1, 1) := by decide +kernel
theorem dX7_add_9 : decode cX7_add 9 = .ok (.lastore, 1) := by decide +kernel
theorem dX7_clear_0 : decode cX7_clear 0 = .ok (.aload_n 0, 1) := by decide +kernel
theorem dX7_clear_1 : decode cX7_clear 1 = .ok (.getfield 19, 3) := by decide +kernel
theorem dX7_clear_10 : decode cX7_clear 10 = .ok (.iload_n 1, 1) := by decide +kernel
theorem dX7_clear_11 : decode cX7_clear 11 = .ok (.ireturn, 1) := by decide +kernel
theorem dX7_clear_4 : decode cX7_clear 4 = .ok (.istore_n 1, 1) := by decide +kernel
theorem dX7_clear_5 : decode cX7_clear 5 = .ok (.aload_n 0, 1) := by decide +kernel
theorem dX7_clear_6 : decode cX7_clear 6 = .ok (.iconst 0, 1) := by decide +kernel
theorem dX7_clear_7 : decode cX7_clear 7 = .ok (.putfield 19, 3) := by decide +kernel
theorem dX7_init_0 : decode cX7_init 0 = .ok (.aload_n 0, 1) := by decide +kernel
theorem dX7_init_1 : decode cX7_init 1 = .ok (.invokespecial 3, 3) := by decide +kernel
theorem dX7_init_12 : decode cX7_init 12 = .ok (.aload_n 0, 1) := by decide +kernel
theorem dX7_init_13 : decode cX7_init 13 = .ok (.bipush 8, 2) := by decide +kernel
theorem dX7_init_15 : decode cX7_init 15 = .ok (.newarray .int, 2) := by decide +kernel
theorem dX7_init_17 : decode cX7_init 17 = .ok (.putfield 15, 3) := by decide +kernel
theorem dX7_init_20 : decode cX7_init 20 = .ok (.aload_n 0, 1) := by decide +kernel
theorem dX7_init_21 : decode cX7_init 21 = .ok (.iconst 0, 1) := by decide +kernel
theorem dX7_init_22 : decode cX7_init 22 = .ok (.putfield 19, 3) := by decide +kernel
theorem dX7_init_25 : decode cX7_init 25 = .ok (.return_, 1) := by decide +kernel
theorem dX7_init_4 : decode cX7_init 4 = .ok (.aload_n 0, 1) := by decide +kernel
theorem dX7_init_5 : decode cX7_init 5 = .ok (.bipush 8, 2) := by decide +kernel
theorem dX7_init_7 : decode cX7_init 7 = .ok (.newarray .long, 2) := by decide +kernel
theorem dX7_init_9 : decode cX7_init 9 = .ok (.putfield 9, 3) := by decide +kernel
theorem dX7_isLeaving_0 : decode cX7_isLeaving 0 = .ok (.lload_n 1, 1) := by decide +kernel
theorem dX7_isLeaving_1 : decode cX7_isLeaving 1 = .ok (.ldc2_w 43, 3) := by decide +kernel
theorem dX7_isLeaving_10 : decode cX7_isLeaving 10 = .ok (.lsub, 1) := by decide +kernel
theorem dX7_isLeaving_11 : decode cX7_isLeaving 11 = .ok (.lload_n 3, 1) := by decide +kernel
theorem dX7_isLeaving_12 : decode cX7_isLeaving 12 = .ok (.ldc2_w 43, 3) := by decide +kernel
theorem dX7_isLeaving_15 : decode cX7_isLeaving 15 = .ok (.lmul, 1) := by decide +kernel
theorem dX7_isLeaving_16 : decode cX7_isLeaving 16 = .ok (.lcmp, 1) := by decide +kernel
theorem dX7_isLeaving_17 : decode cX7_isLeaving 17 = .ok (.ifCond .lt 7, 3) := by decide +kernel
theorem dX7_isLeaving_20 : decode cX7_isLeaving 20 = .ok (.iconst 1, 1) := by decide +kernel
theorem dX7_isLeaving_21 : decode cX7_isLeaving 21 = .ok (.goto 4, 3) := by decide +kernel
theorem dX7_isLeaving_24 : decode cX7_isLeaving 24 = .ok (.iconst 0, 1) := by decide +kernel
theorem dX7_isLeaving_25 : decode cX7_isLeaving 25 = .ok (.ireturn, 1) := by decide +kernel
theorem dX7_isLeaving_4 : decode cX7_isLeaving 4 = .ok (.lmul, 1) := by decide +kernel
theorem dX7_isLeaving_5 : decode cX7_isLeaving 5 = .ok (.aload_n 0, 1) := by decide +kernel
theorem dX7_isLeaving_6 : decode cX7_isLeaving 6 = .ok (.lload_n 1, 1) := by decide +kernel
theorem dX7_isLeaving_7 : decode cX7_isLeaving 7 = .ok (.invokevirtual 45, 3) := by decide +kernel
theorem dX7_leastLeaving_0 : decode cX7_leastLeaving 0 = .ok (.aload_n 0, 1) := by decide +kernel
theorem dX7_leastLeaving_1 : decode cX7_leastLeaving 1 = .ok (.ldc2_w 32, 3) := by decide +kernel
theorem dX7_leastLeaving_11 : decode cX7_leastLeaving 11 = .ok (.ldc2_w 38, 3) := by decide +kernel
theorem dX7_leastLeaving_14 : decode cX7_leastLeaving 14 = .ok (.lreturn, 1) := by decide +kernel
theorem dX7_leastLeaving_15 : decode cX7_leastLeaving 15 = .ok (.lconst 0, 1) := by decide +kernel
theorem dX7_leastLeaving_16 : decode cX7_leastLeaving 16 = .ok (.lstore_n 3, 1) := by decide +kernel
theorem dX7_leastLeaving_17 : decode cX7_leastLeaving 17 = .ok (.ldc2_w 32, 3) := by decide +kernel
theorem dX7_leastLeaving_20 : decode cX7_leastLeaving 20 = .ok (.lstore 5, 2) := by decide +kernel
theorem dX7_leastLeaving_22 : decode cX7_leastLeaving 22 = .ok (.iconst 0, 1) := by decide +kernel
theorem dX7_leastLeaving_23 : decode cX7_leastLeaving 23 = .ok (.istore 7, 2) := by decide +kernel
theorem dX7_leastLeaving_25 : decode cX7_leastLeaving 25 = .ok (.iload 7, 2) := by decide +kernel
theorem dX7_leastLeaving_27 : decode cX7_leastLeaving 27 = .ok (.ldc 40, 2) := by decide +kernel
theorem dX7_leastLeaving_29 : decode cX7_leastLeaving 29 = .ok (.if_icmp .ge 48, 3) := by decide +kernel
theorem dX7_leastLeaving_32 : decode cX7_leastLeaving 32 = .ok (.lload_n 3, 1) := by decide +kernel
theorem dX7_leastLeaving_33 : decode cX7_leastLeaving 33 = .ok (.lload 5, 2) := by decide +kernel
theorem dX7_leastLeaving_35 : decode cX7_leastLeaving 35 = .ok (.lcmp, 1) := by decide +kernel
theorem dX7_leastLeaving_36 : decode cX7_leastLeaving 36 = .ok (.ifCond .ge 41, 3) := by decide +kernel
theorem dX7_leastLeaving_39 : decode cX7_leastLeaving 39 = .ok (.lload_n 3, 1) := by decide +kernel
theorem dX7_leastLeaving_4 : decode cX7_leastLeaving 4 = .ok (.lload_n 1, 1) := by decide +kernel
theorem dX7_leastLeaving_40 : decode cX7_leastLeaving 40 = .ok (.lload 5, 2) := by decide +kernel
theorem dX7_leastLeaving_42 : decode cX7_leastLeaving 42 = .ok (.ladd, 1) := by decide +kernel
theorem dX7_leastLeaving_43 : decode cX7_leastLeaving 43 = .ok (.ldc2_w 41, 3) := by decide +kernel
theorem dX7_leastLeaving_46 : decode cX7_leastLeaving 46 = .ok (.ldiv, 1) := by decide +kernel
theorem dX7_leastLeaving_47 : decode cX7_leastLeaving 47 = .ok (.lstore 8, 2) := by decide +kernel
theorem dX7_leastLeaving_49 : decode cX7_leastLeaving 49 = .ok (.aload_n 0, 1) := by decide +kernel
theorem dX7_leastLeaving_5 : decode cX7_leastLeaving 5 = .ok (.invokevirtual 34, 3) := by decide +kernel
theorem dX7_leastLeaving_50 : decode cX7_leastLeaving 50 = .ok (.lload 8, 2) := by decide +kernel
theorem dX7_leastLeaving_52 : decode cX7_leastLeaving 52 = .ok (.lload_n 1, 1) := by decide +kernel
theorem dX7_leastLeaving_53 : decode cX7_leastLeaving 53 = .ok (.invokevirtual 34, 3) := by decide +kernel
theorem dX7_leastLeaving_56 : decode cX7_leastLeaving 56 = .ok (.ifCond .eq 10, 3) := by decide +kernel
theorem dX7_leastLeaving_59 : decode cX7_leastLeaving 59 = .ok (.lload 8, 2) := by decide +kernel
theorem dX7_leastLeaving_61 : decode cX7_leastLeaving 61 = .ok (.lstore 5, 2) := by decide +kernel
theorem dX7_leastLeaving_63 : decode cX7_leastLeaving 63 = .ok (.goto 8, 3) := by decide +kernel
theorem dX7_leastLeaving_66 : decode cX7_leastLeaving 66 = .ok (.lload 8, 2) := by decide +kernel
theorem dX7_leastLeaving_68 : decode cX7_leastLeaving 68 = .ok (.lconst 1, 1) := by decide +kernel
theorem dX7_leastLeaving_69 : decode cX7_leastLeaving 69 = .ok (.ladd, 1) := by decide +kernel
theorem dX7_leastLeaving_70 : decode cX7_leastLeaving 70 = .ok (.lstore_n 3, 1) := by decide +kernel
theorem dX7_leastLeaving_71 : decode cX7_leastLeaving 71 = .ok (.iinc 7 1, 3) := by decide +kernel
theorem dX7_leastLeaving_74 : decode cX7_leastLeaving 74 = .ok (.goto (-49), 3) := by decide +kernel
theorem dX7_leastLeaving_77 : decode cX7_leastLeaving 77 = .ok (.lload_n 3, 1) := by decide +kernel
theorem dX7_leastLeaving_78 : decode cX7_leastLeaving 78 = .ok (.lreturn, 1) := by decide +kernel
theorem dX7_leastLeaving_8 : decode cX7_leastLeaving 8 = .ok (.ifCond .ne 7, 3) := by decide +kernel
theorem dX7_leastNextFrom_0 : decode cX7_leastNextFrom 0 = .ok (.aload_n 0, 1) := by decide +kernel
theorem dX7_leastNextFrom_1 : decode cX7_leastNextFrom 1 = .ok (.getfield 19, 3) := by decide +kernel
theorem dX7_leastNextFrom_11 : decode cX7_leastNextFrom 11 = .ok (.aload_n 0, 1) := by decide +kernel
theorem dX7_leastNextFrom_12 : decode cX7_leastNextFrom 12 = .ok (.getfield 9, 3) := by decide +kernel
theorem dX7_leastNextFrom_15 : decode cX7_leastNextFrom 15 = .ok (.aload_n 0, 1) := by decide +kernel
theorem dX7_leastNextFrom_16 : decode cX7_leastNextFrom 16 = .ok (.getfield 19, 3) := by decide +kernel
theorem dX7_leastNextFrom_19 : decode cX7_leastNextFrom 19 = .ok (.iconst 1, 1) := by decide +kernel
theorem dX7_leastNextFrom_20 : decode cX7_leastNextFrom 20 = .ok (.isub, 1) := by decide +kernel
theorem dX7_leastNextFrom_21 : decode cX7_leastNextFrom 21 = .ok (.laload, 1) := by decide +kernel
theorem dX7_leastNextFrom_22 : decode cX7_leastNextFrom 22 = .ok (.lconst 1, 1) := by decide +kernel
theorem dX7_leastNextFrom_23 : decode cX7_leastNextFrom 23 = .ok (.ladd, 1) := by decide +kernel
theorem dX7_leastNextFrom_24 : decode cX7_leastNextFrom 24 = .ok (.lreturn, 1) := by decide +kernel
theorem dX7_leastNextFrom_4 : decode cX7_leastNextFrom 4 = .ok (.ifCond .ne 7, 3) := by decide +kernel
theorem dX7_leastNextFrom_7 : decode cX7_leastNextFrom 7 = .ok (.lconst 0, 1) := by decide +kernel
theorem dX7_leastNextFrom_8 : decode cX7_leastNextFrom 8 = .ok (.goto 16, 3) := by decide +kernel
theorem dX7_thousandfoldOf_0 : decode cX7_thousandfoldOf 0 = .ok (.lconst 0, 1) := by decide +kernel
theorem dX7_thousandfoldOf_1 : decode cX7_thousandfoldOf 1 = .ok (.lstore_n 3, 1) := by decide +kernel
theorem dX7_thousandfoldOf_11 : decode cX7_thousandfoldOf 11 = .ok (.if_icmp .ge 65, 3) := by decide +kernel
theorem dX7_thousandfoldOf_14 : decode cX7_thousandfoldOf 14 = .ok (.iload 5, 2) := by decide +kernel
theorem dX7_thousandfoldOf_16 : decode cX7_thousandfoldOf 16 = .ok (.iconst 1, 1) := by decide +kernel
theorem dX7_thousandfoldOf_17 : decode cX7_thousandfoldOf 17 = .ok (.iadd, 1) := by decide +kernel
theorem dX7_thousandfoldOf_18 : decode cX7_thousandfoldOf 18 = .ok (.aload_n 0, 1) := by decide +kernel
theorem dX7_thousandfoldOf_19 : decode cX7_thousandfoldOf 19 = .ok (.getfield 19, 3) := by decide +kernel
theorem dX7_thousandfoldOf_2 : decode cX7_thousandfoldOf 2 = .ok (.iconst 0, 1) := by decide +kernel
theorem dX7_thousandfoldOf_22 : decode cX7_thousandfoldOf 22 = .ok (.if_icmp .ge 19, 3) := by decide +kernel
theorem dX7_thousandfoldOf_25 : decode cX7_thousandfoldOf 25 = .ok (.lload_n 1, 1) := by decide +kernel
theorem dX7_thousandfoldOf_26 : decode cX7_thousandfoldOf 26 = .ok (.aload_n 0, 1) := by decide +kernel
theorem dX7_thousandfoldOf_27 : decode cX7_thousandfoldOf 27 = .ok (.getfield 9, 3) := by decide +kernel
theorem dX7_thousandfoldOf_3 : decode cX7_thousandfoldOf 3 = .ok (.istore 5, 2) := by decide +kernel
theorem dX7_thousandfoldOf_30 : decode cX7_thousandfoldOf 30 = .ok (.iload 5, 2) := by decide +kernel
theorem dX7_thousandfoldOf_32 : decode cX7_thousandfoldOf 32 = .ok (.iconst 1, 1) := by decide +kernel
theorem dX7_thousandfoldOf_33 : decode cX7_thousandfoldOf 33 = .ok (.iadd, 1) := by decide +kernel
theorem dX7_thousandfoldOf_34 : decode cX7_thousandfoldOf 34 = .ok (.laload, 1) := by decide +kernel
theorem dX7_thousandfoldOf_35 : decode cX7_thousandfoldOf 35 = .ok (.invokestatic 23, 3) := by decide +kernel
theorem dX7_thousandfoldOf_38 : decode cX7_thousandfoldOf 38 = .ok (.goto 4, 3) := by decide +kernel
theorem dX7_thousandfoldOf_41 : decode cX7_thousandfoldOf 41 = .ok (.lload_n 1, 1) := by decide +kernel
theorem dX7_thousandfoldOf_42 : decode cX7_thousandfoldOf 42 = .ok (.lstore 6, 2) := by decide +kernel
theorem dX7_thousandfoldOf_44 : decode cX7_thousandfoldOf 44 = .ok (.lload_n 3, 1) := by decide +kernel
theorem dX7_thousandfoldOf_45 : decode cX7_thousandfoldOf 45 = .ok (.lconst 0, 1) := by decide +kernel
theorem dX7_thousandfoldOf_46 : decode cX7_thousandfoldOf 46 = .ok (.lload 6, 2) := by decide +kernel
theorem dX7_thousandfoldOf_48 : decode cX7_thousandfoldOf 48 = .ok (.aload_n 0, 1) := by decide +kernel
theorem dX7_thousandfoldOf_49 : decode cX7_thousandfoldOf 49 = .ok (.getfield 9, 3) := by decide +kernel
theorem dX7_thousandfoldOf_5 : decode cX7_thousandfoldOf 5 = .ok (.iload 5, 2) := by decide +kernel
theorem dX7_thousandfoldOf_52 : decode cX7_thousandfoldOf 52 = .ok (.iload 5, 2) := by decide +kernel
theorem dX7_thousandfoldOf_54 : decode cX7_thousandfoldOf 54 = .ok (.laload, 1) := by decide +kernel
theorem dX7_thousandfoldOf_55 : decode cX7_thousandfoldOf 55 = .ok (.lsub, 1) := by decide +kernel
theorem dX7_thousandfoldOf_56 : decode cX7_thousandfoldOf 56 = .ok (.invokestatic 29, 3) := by decide +kernel
theorem dX7_thousandfoldOf_59 : decode cX7_thousandfoldOf 59 = .ok (.aload_n 0, 1) := by decide +kernel
theorem dX7_thousandfoldOf_60 : decode cX7_thousandfoldOf 60 = .ok (.getfield 15, 3) := by decide +kernel
theorem dX7_thousandfoldOf_63 : decode cX7_thousandfoldOf 63 = .ok (.iload 5, 2) := by decide +kernel
theorem dX7_thousandfoldOf_65 : decode cX7_thousandfoldOf 65 = .ok (.iaload, 1) := by decide +kernel
theorem dX7_thousandfoldOf_66 : decode cX7_thousandfoldOf 66 = .ok (.i2l, 1) := by decide +kernel
theorem dX7_thousandfoldOf_67 : decode cX7_thousandfoldOf 67 = .ok (.lmul, 1) := by decide +kernel
theorem dX7_thousandfoldOf_68 : decode cX7_thousandfoldOf 68 = .ok (.ladd, 1) := by decide +kernel
theorem dX7_thousandfoldOf_69 : decode cX7_thousandfoldOf 69 = .ok (.lstore_n 3, 1) := by decide +kernel
theorem dX7_thousandfoldOf_7 : decode cX7_thousandfoldOf 7 = .ok (.aload_n 0, 1) := by decide +kernel
theorem dX7_thousandfoldOf_70 : decode cX7_thousandfoldOf 70 = .ok (.iinc 5 1, 3) := by decide +kernel
theorem dX7_thousandfoldOf_73 : decode cX7_thousandfoldOf 73 = .ok (.goto (-68), 3) := by decide +kernel
theorem dX7_thousandfoldOf_76 : decode cX7_thousandfoldOf 76 = .ok (.lload_n 3, 1) := by decide +kernel
theorem dX7_thousandfoldOf_77 : decode cX7_thousandfoldOf 77 = .ok (.lreturn, 1) := by decide +kernel
theorem dX7_thousandfoldOf_8 : decode cX7_thousandfoldOf 8 = .ok (.getfield 19, 3) := by decide +kernel
set_option maxRecDepth 20000 in
theorem ggX6_isPartedWhole_X6_allWeights : GoodIn wsX6_isPartedWhole wsX6_allWeights := goodIn_r _ [6, 1, 7, 12, 13] (by decide +kernel) (by decide +kernel)
set_option maxRecDepth 20000 in
theorem gX6_isPartedWhole_X6_allWeights : GoodIn wsX6_isPartedWhole (wsV RX6 19 RX6 yX6_allWeights wsX6_allWeights) := goodIn_app (goodIn_of _ (by decide +kernel)) ggX6_isPartedWhole_X6_allWeights
set_option maxRecDepth 20000 in
theorem ggX6_partOf_X6_allWeights : GoodIn wsX6_partOf wsX6_allWeights := goodIn_r _ [7, 2, 1, 8, 9] (by decide +kernel) (by decide +kernel)
set_option maxRecDepth 20000 in
theorem gX6_partOf_X6_allWeights : GoodIn wsX6_partOf (wsV RX6 19 RX6 yX6_allWeights wsX6_allWeights) := goodIn_app (goodIn_of _ (by decide +kernel)) ggX6_partOf_X6_allWeights
set_option maxRecDepth 20000 in
theorem ggX7_isLeaving_X7_thousandfoldOf : GoodIn wsX7_isLeaving wsX7_thousandfoldOf := goodIn_r _ [6, 7, 8, 9, 10, 11, 12, 13, 14, 15, 16, 17, 18, 19] (by decide +kernel) (by decide +kernel)
set_option maxRecDepth 20000 in
theorem gX7_isLeaving_X7_thousandfoldOf : GoodIn wsX7_isLeaving (wsV RX7 45 RX7 yX7_thousandfoldOf wsX7_thousandfoldOf) := goodIn_app (goodIn_of _ (by decide +kernel)) ggX7_isLeaving_X7_thousandfoldOf
set_option maxRecDepth 20000 in
theorem ggX7_leastLeaving_X7_isLeaving : GoodIn wsX7_leastLeaving wsX7_isLeaving := goodIn_r _ [9, 10, 11, 12, 13, 8, 14, 15, 16, 17, 18, 19, 20, 21, 22, 23, 24, 25, 26, 27] (by decide +kernel) (by decide +kernel)
set_option maxRecDepth 20000 in
theorem gX7_leastLeaving_X7_isLeaving : GoodIn wsX7_leastLeaving (wsV RX7 34 RX7 yX7_isLeaving wsX7_isLeaving) := goodIn_app (goodIn_of _ (by decide +kernel)) ggX7_leastLeaving_X7_isLeaving
