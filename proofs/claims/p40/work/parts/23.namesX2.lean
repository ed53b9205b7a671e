-- printed rows that the walks use
theorem dX2_add_0 : decode cX2_add 0 = .ok (.aload_n 0, 1) := by decide +kernel
theorem dX2_add_1 : decode cX2_add 1 = .ok (.getfield 9, 3) := by decide +kernel
theorem dX2_add_10 : decode cX2_add 10 = .ok (.aload_n 0, 1) := by decide +kernel
theorem dX2_add_11 : decode cX2_add 11 = .ok (.dup, 1) := by decide +kernel
theorem dX2_add_12 : decode cX2_add 12 = .ok (.getfield 25, 3) := by decide +kernel
theorem dX2_add_15 : decode cX2_add 15 = .ok (.iconst 1, 1) := by decide +kernel
theorem dX2_add_16 : decode cX2_add 16 = .ok (.iadd, 1) := by decide +kernel
theorem dX2_add_17 : decode cX2_add 17 = .ok (.putfield 25, 3) := by decide +kernel
theorem dX2_add_20 : decode cX2_add 20 = .ok (.aload_n 0, 1) := by decide +kernel
theorem dX2_add_21 : decode cX2_add 21 = .ok (.getfield 25, 3) := by decide +kernel
theorem dX2_add_24 : decode cX2_add 24 = .ok (.ireturn, 1) := by decide +kernel
theorem dX2_add_4 : decode cX2_add 4 = .ok (.aload_n 0, 1) := by decide +kernel
theorem dX2_add_5 : decode cX2_add 5 = .ok (.getfield 25, 3) := by decide +kernel
theorem dX2_add_8 : decode cX2_add 8 = .ok (.iload_n 1, 1) := by decide +kernel
theorem dX2_add_9 : decode cX2_add 9 = .ok (.iastore, 1) := by decide +kernel
theorem dX2_carryDeath_0 : decode cX2_carryDeath 0 = .ok (.aload_n 1, 1) := by decide +kernel
theorem dX2_carryDeath_1 : decode cX2_carryDeath 1 = .ok (.iload_n 3, 1) := by decide +kernel
theorem dX2_carryDeath_11 : decode cX2_carryDeath 11 = .ok (.aload_n 0, 1) := by decide +kernel
theorem dX2_carryDeath_12 : decode cX2_carryDeath 12 = .ok (.getfield 25, 3) := by decide +kernel
theorem dX2_carryDeath_15 : decode cX2_carryDeath 15 = .ok (.if_icmp .ge 53, 3) := by decide +kernel
theorem dX2_carryDeath_18 : decode cX2_carryDeath 18 = .ok (.aload_n 1, 1) := by decide +kernel
theorem dX2_carryDeath_19 : decode cX2_carryDeath 19 = .ok (.iload 4, 2) := by decide +kernel
theorem dX2_carryDeath_2 : decode cX2_carryDeath 2 = .ok (.lconst 0, 1) := by decide +kernel
theorem dX2_carryDeath_21 : decode cX2_carryDeath 21 = .ok (.iconst 1, 1) := by decide +kernel
theorem dX2_carryDeath_22 : decode cX2_carryDeath 22 = .ok (.iadd, 1) := by decide +kernel
theorem dX2_carryDeath_23 : decode cX2_carryDeath 23 = .ok (.aload_n 0, 1) := by decide +kernel
theorem dX2_carryDeath_24 : decode cX2_carryDeath 24 = .ok (.getfield 25, 3) := by decide +kernel
theorem dX2_carryDeath_27 : decode cX2_carryDeath 27 = .ok (.if_icmp .ge 24, 3) := by decide +kernel
theorem dX2_carryDeath_3 : decode cX2_carryDeath 3 = .ok (.invokevirtual 81, 3) := by decide +kernel
theorem dX2_carryDeath_30 : decode cX2_carryDeath 30 = .ok (.aload_n 0, 1) := by decide +kernel
theorem dX2_carryDeath_31 : decode cX2_carryDeath 31 = .ok (.getfield 9, 3) := by decide +kernel
theorem dX2_carryDeath_34 : decode cX2_carryDeath 34 = .ok (.iload 4, 2) := by decide +kernel
theorem dX2_carryDeath_36 : decode cX2_carryDeath 36 = .ok (.iaload, 1) := by decide +kernel
theorem dX2_carryDeath_37 : decode cX2_carryDeath 37 = .ok (.aload_n 0, 1) := by decide +kernel
theorem dX2_carryDeath_38 : decode cX2_carryDeath 38 = .ok (.getfield 9, 3) := by decide +kernel
theorem dX2_carryDeath_41 : decode cX2_carryDeath 41 = .ok (.iload 4, 2) := by decide +kernel
theorem dX2_carryDeath_43 : decode cX2_carryDeath 43 = .ok (.iconst 1, 1) := by decide +kernel
theorem dX2_carryDeath_44 : decode cX2_carryDeath 44 = .ok (.iadd, 1) := by decide +kernel
theorem dX2_carryDeath_45 : decode cX2_carryDeath 45 = .ok (.iaload, 1) := by decide +kernel
theorem dX2_carryDeath_46 : decode cX2_carryDeath 46 = .ok (.isub, 1) := by decide +kernel
theorem dX2_carryDeath_47 : decode cX2_carryDeath 47 = .ok (.i2l, 1) := by decide +kernel
theorem dX2_carryDeath_48 : decode cX2_carryDeath 48 = .ok (.goto 11, 3) := by decide +kernel
theorem dX2_carryDeath_51 : decode cX2_carryDeath 51 = .ok (.aload_n 0, 1) := by decide +kernel
theorem dX2_carryDeath_52 : decode cX2_carryDeath 52 = .ok (.getfield 9, 3) := by decide +kernel
theorem dX2_carryDeath_55 : decode cX2_carryDeath 55 = .ok (.iload 4, 2) := by decide +kernel
theorem dX2_carryDeath_57 : decode cX2_carryDeath 57 = .ok (.iaload, 1) := by decide +kernel
theorem dX2_carryDeath_58 : decode cX2_carryDeath 58 = .ok (.i2l, 1) := by decide +kernel
theorem dX2_carryDeath_59 : decode cX2_carryDeath 59 = .ok (.invokevirtual 85, 3) := by decide +kernel
theorem dX2_carryDeath_6 : decode cX2_carryDeath 6 = .ok (.iload_n 2, 1) := by decide +kernel
theorem dX2_carryDeath_62 : decode cX2_carryDeath 62 = .ok (.iinc 4 1, 3) := by decide +kernel
theorem dX2_carryDeath_65 : decode cX2_carryDeath 65 = .ok (.goto (-56), 3) := by decide +kernel
theorem dX2_carryDeath_68 : decode cX2_carryDeath 68 = .ok (.return_, 1) := by decide +kernel
theorem dX2_carryDeath_7 : decode cX2_carryDeath 7 = .ok (.istore 4, 2) := by decide +kernel
theorem dX2_carryDeath_9 : decode cX2_carryDeath 9 = .ok (.iload 4, 2) := by decide +kernel
theorem dX2_carryLife_0 : decode cX2_carryLife 0 = .ok (.aload_n 1, 1) := by decide +kernel
theorem dX2_carryLife_1 : decode cX2_carryLife 1 = .ok (.iload_n 3, 1) := by decide +kernel
theorem dX2_carryLife_12 : decode cX2_carryLife 12 = .ok (.iload_n 2, 1) := by decide +kernel
theorem dX2_carryLife_13 : decode cX2_carryLife 13 = .ok (.iconst 1, 1) := by decide +kernel
theorem dX2_carryLife_14 : decode cX2_carryLife 14 = .ok (.iadd, 1) := by decide +kernel
theorem dX2_carryLife_15 : decode cX2_carryLife 15 = .ok (.istore 4, 2) := by decide +kernel
theorem dX2_carryLife_17 : decode cX2_carryLife 17 = .ok (.iload 4, 2) := by decide +kernel
theorem dX2_carryLife_19 : decode cX2_carryLife 19 = .ok (.aload_n 0, 1) := by decide +kernel
theorem dX2_carryLife_2 : decode cX2_carryLife 2 = .ok (.aload_n 0, 1) := by decide +kernel
theorem dX2_carryLife_20 : decode cX2_carryLife 20 = .ok (.getfield 25, 3) := by decide +kernel
theorem dX2_carryLife_23 : decode cX2_carryLife 23 = .ok (.if_icmp .ge 21, 3) := by decide +kernel
theorem dX2_carryLife_26 : decode cX2_carryLife 26 = .ok (.aload_n 1, 1) := by decide +kernel
theorem dX2_carryLife_27 : decode cX2_carryLife 27 = .ok (.aload_n 0, 1) := by decide +kernel
theorem dX2_carryLife_28 : decode cX2_carryLife 28 = .ok (.getfield 9, 3) := by decide +kernel
theorem dX2_carryLife_3 : decode cX2_carryLife 3 = .ok (.getfield 9, 3) := by decide +kernel
theorem dX2_carryLife_31 : decode cX2_carryLife 31 = .ok (.iload 4, 2) := by decide +kernel
theorem dX2_carryLife_33 : decode cX2_carryLife 33 = .ok (.iaload, 1) := by decide +kernel
theorem dX2_carryLife_34 : decode cX2_carryLife 34 = .ok (.i2l, 1) := by decide +kernel
theorem dX2_carryLife_35 : decode cX2_carryLife 35 = .ok (.invokevirtual 85, 3) := by decide +kernel
theorem dX2_carryLife_38 : decode cX2_carryLife 38 = .ok (.iinc 4 1, 3) := by decide +kernel
theorem dX2_carryLife_41 : decode cX2_carryLife 41 = .ok (.goto (-24), 3) := by decide +kernel
theorem dX2_carryLife_44 : decode cX2_carryLife 44 = .ok (.return_, 1) := by decide +kernel
theorem dX2_carryLife_6 : decode cX2_carryLife 6 = .ok (.iload_n 2, 1) := by decide +kernel
theorem dX2_carryLife_7 : decode cX2_carryLife 7 = .ok (.iaload, 1) := by decide +kernel
theorem dX2_carryLife_8 : decode cX2_carryLife 8 = .ok (.i2l, 1) := by decide +kernel
theorem dX2_carryLife_9 : decode cX2_carryLife 9 = .ok (.invokevirtual 81, 3) := by decide +kernel
theorem dX2_clear_0 : decode cX2_clear 0 = .ok (.aload_n 0, 1) := by decide +kernel
theorem dX2_clear_1 : decode cX2_clear 1 = .ok (.getfield 25, 3) := by decide +kernel
theorem dX2_clear_10 : decode cX2_clear 10 = .ok (.iload_n 1, 1) := by decide +kernel
theorem dX2_clear_11 : decode cX2_clear 11 = .ok (.ireturn, 1) := by decide +kernel
theorem dX2_clear_4 : decode cX2_clear 4 = .ok (.istore_n 1, 1) := by decide +kernel
theorem dX2_clear_5 : decode cX2_clear 5 = .ok (.aload_n 0, 1) := by decide +kernel
theorem dX2_clear_6 : decode cX2_clear 6 = .ok (.iconst 0, 1) := by decide +kernel
theorem dX2_clear_7 : decode cX2_clear 7 = .ok (.putfield 25, 3) := by decide +kernel
theorem dX2_init_0 : decode cX2_init 0 = .ok (.aload_n 0, 1) := by decide +kernel
theorem dX2_init_1 : decode cX2_init 1 = .ok (.invokespecial 3, 3) := by decide +kernel
theorem dX2_init_12 : decode cX2_init 12 = .ok (.aload_n 0, 1) := by decide +kernel
theorem dX2_init_13 : decode cX2_init 13 = .ok (.new 15, 3) := by decide +kernel
theorem dX2_init_16 : decode cX2_init 16 = .ok (.dup, 1) := by decide +kernel
theorem dX2_init_17 : decode cX2_init 17 = .ok (.invokespecial 17, 3) := by decide +kernel
theorem dX2_init_20 : decode cX2_init 20 = .ok (.putfield 18, 3) := by decide +kernel
theorem dX2_init_23 : decode cX2_init 23 = .ok (.aload_n 0, 1) := by decide +kernel
theorem dX2_init_24 : decode cX2_init 24 = .ok (.new 15, 3) := by decide +kernel
theorem dX2_init_27 : decode cX2_init 27 = .ok (.dup, 1) := by decide +kernel
theorem dX2_init_28 : decode cX2_init 28 = .ok (.invokespecial 17, 3) := by decide +kernel
theorem dX2_init_31 : decode cX2_init 31 = .ok (.putfield 22, 3) := by decide +kernel
theorem dX2_init_34 : decode cX2_init 34 = .ok (.aload_n 0, 1) := by decide +kernel
theorem dX2_init_35 : decode cX2_init 35 = .ok (.iconst 0, 1) := by decide +kernel
theorem dX2_init_36 : decode cX2_init 36 = .ok (.putfield 25, 3) := by decide +kernel
theorem dX2_init_39 : decode cX2_init 39 = .ok (.return_, 1) := by decide +kernel
theorem dX2_init_4 : decode cX2_init 4 = .ok (.aload_n 0, 1) := by decide +kernel
theorem dX2_init_5 : decode cX2_init 5 = .ok (.bipush 30, 2) := by decide +kernel
theorem dX2_init_7 : decode cX2_init 7 = .ok (.newarray .int, 2) := by decide +kernel
theorem dX2_init_9 : decode cX2_init 9 = .ok (.putfield 9, 3) := by decide +kernel
theorem dX2_isSumShared_0 : decode cX2_isSumShared 0 = .ok (.aload_n 0, 1) := by decide +kernel
theorem dX2_isSumShared_1 : decode cX2_isSumShared 1 = .ok (.getfield 25, 3) := by decide +kernel
theorem dX2_isSumShared_10 : decode cX2_isSumShared 10 = .ok (.aload_n 0, 1) := by decide +kernel
theorem dX2_isSumShared_100 : decode cX2_isSumShared 100 = .ok (.getfield 18, 3) := by decide +kernel
theorem dX2_isSumShared_103 : decode cX2_isSumShared 103 = .ok (.getfield 34, 3) := by decide +kernel
theorem dX2_isSumShared_106 : decode cX2_isSumShared 106 = .ok (.invokevirtual 77, 3) := by decide +kernel
theorem dX2_isSumShared_109 : decode cX2_isSumShared 109 = .ok (.ifCond .ne 7, 3) := by decide +kernel
theorem dX2_isSumShared_11 : decode cX2_isSumShared 11 = .ok (.getfield 18, 3) := by decide +kernel
theorem dX2_isSumShared_112 : decode cX2_isSumShared 112 = .ok (.iconst 1, 1) := by decide +kernel
theorem dX2_isSumShared_113 : decode cX2_isSumShared 113 = .ok (.goto 4, 3) := by decide +kernel
theorem dX2_isSumShared_117 : decode cX2_isSumShared 117 = .ok (.ireturn, 1) := by decide +kernel
theorem dX2_isSumShared_14 : decode cX2_isSumShared 14 = .ok (.iconst 0, 1) := by decide +kernel
theorem dX2_isSumShared_15 : decode cX2_isSumShared 15 = .ok (.iload_n 1, 1) := by decide +kernel
theorem dX2_isSumShared_16 : decode cX2_isSumShared 16 = .ok (.invokevirtual 57, 3) := by decide +kernel
theorem dX2_isSumShared_19 : decode cX2_isSumShared 19 = .ok (.aload_n 0, 1) := by decide +kernel
theorem dX2_isSumShared_20 : decode cX2_isSumShared 20 = .ok (.aload_n 0, 1) := by decide +kernel
theorem dX2_isSumShared_21 : decode cX2_isSumShared 21 = .ok (.getfield 22, 3) := by decide +kernel
theorem dX2_isSumShared_24 : decode cX2_isSumShared 24 = .ok (.iconst 0, 1) := by decide +kernel
theorem dX2_isSumShared_25 : decode cX2_isSumShared 25 = .ok (.iload_n 1, 1) := by decide +kernel
theorem dX2_isSumShared_26 : decode cX2_isSumShared 26 = .ok (.invokevirtual 30, 3) := by decide +kernel
theorem dX2_isSumShared_29 : decode cX2_isSumShared 29 = .ok (.aload_n 0, 1) := by decide +kernel
theorem dX2_isSumShared_30 : decode cX2_isSumShared 30 = .ok (.getfield 18, 3) := by decide +kernel
theorem dX2_isSumShared_33 : decode cX2_isSumShared 33 = .ok (.getfield 34, 3) := by decide +kernel
theorem dX2_isSumShared_36 : decode cX2_isSumShared 36 = .ok (.lconst 1, 1) := by decide +kernel
theorem dX2_isSumShared_37 : decode cX2_isSumShared 37 = .ok (.aload_n 0, 1) := by decide +kernel
theorem dX2_isSumShared_38 : decode cX2_isSumShared 38 = .ok (.getfield 22, 3) := by decide +kernel
theorem dX2_isSumShared_4 : decode cX2_isSumShared 4 = .ok (.ifCond .ne 5, 3) := by decide +kernel
theorem dX2_isSumShared_41 : decode cX2_isSumShared 41 = .ok (.getfield 34, 3) := by decide +kernel
theorem dX2_isSumShared_44 : decode cX2_isSumShared 44 = .ok (.aload_n 0, 1) := by decide +kernel
theorem dX2_isSumShared_45 : decode cX2_isSumShared 45 = .ok (.getfield 18, 3) := by decide +kernel
theorem dX2_isSumShared_48 : decode cX2_isSumShared 48 = .ok (.getfield 60, 3) := by decide +kernel
theorem dX2_isSumShared_51 : decode cX2_isSumShared 51 = .ok (.aload_n 0, 1) := by decide +kernel
theorem dX2_isSumShared_52 : decode cX2_isSumShared 52 = .ok (.getfield 18, 3) := by decide +kernel
theorem dX2_isSumShared_55 : decode cX2_isSumShared 55 = .ok (.getfield 74, 3) := by decide +kernel
theorem dX2_isSumShared_58 : decode cX2_isSumShared 58 = .ok (.lsub, 1) := by decide +kernel
theorem dX2_isSumShared_59 : decode cX2_isSumShared 59 = .ok (.iconst 0, 1) := by decide +kernel
theorem dX2_isSumShared_60 : decode cX2_isSumShared 60 = .ok (.invokevirtual 70, 3) := by decide +kernel
theorem dX2_isSumShared_63 : decode cX2_isSumShared 63 = .ok (.aload_n 0, 1) := by decide +kernel
theorem dX2_isSumShared_64 : decode cX2_isSumShared 64 = .ok (.getfield 18, 3) := by decide +kernel
theorem dX2_isSumShared_67 : decode cX2_isSumShared 67 = .ok (.getfield 34, 3) := by decide +kernel
theorem dX2_isSumShared_7 : decode cX2_isSumShared 7 = .ok (.iconst 1, 1) := by decide +kernel
theorem dX2_isSumShared_70 : decode cX2_isSumShared 70 = .ok (.lconst 1, 1) := by decide +kernel
theorem dX2_isSumShared_71 : decode cX2_isSumShared 71 = .ok (.aload_n 0, 1) := by decide +kernel
theorem dX2_isSumShared_72 : decode cX2_isSumShared 72 = .ok (.getfield 18, 3) := by decide +kernel
theorem dX2_isSumShared_75 : decode cX2_isSumShared 75 = .ok (.aload_n 0, 1) := by decide +kernel
theorem dX2_isSumShared_76 : decode cX2_isSumShared 76 = .ok (.getfield 9, 3) := by decide +kernel
theorem dX2_isSumShared_79 : decode cX2_isSumShared 79 = .ok (.iconst 0, 1) := by decide +kernel
theorem dX2_isSumShared_8 : decode cX2_isSumShared 8 = .ok (.ireturn, 1) := by decide +kernel
theorem dX2_isSumShared_80 : decode cX2_isSumShared 80 = .ok (.iaload, 1) := by decide +kernel
theorem dX2_isSumShared_81 : decode cX2_isSumShared 81 = .ok (.i2l, 1) := by decide +kernel
theorem dX2_isSumShared_82 : decode cX2_isSumShared 82 = .ok (.aload_n 0, 1) := by decide +kernel
theorem dX2_isSumShared_83 : decode cX2_isSumShared 83 = .ok (.getfield 18, 3) := by decide +kernel
theorem dX2_isSumShared_86 : decode cX2_isSumShared 86 = .ok (.getfield 44, 3) := by decide +kernel
theorem dX2_isSumShared_89 : decode cX2_isSumShared 89 = .ok (.invokevirtual 47, 3) := by decide +kernel
theorem dX2_isSumShared_9 : decode cX2_isSumShared 9 = .ok (.aload_n 0, 1) := by decide +kernel
theorem dX2_isSumShared_92 : decode cX2_isSumShared 92 = .ok (.ldc2_w 68, 3) := by decide +kernel
theorem dX2_isSumShared_95 : decode cX2_isSumShared 95 = .ok (.iconst 0, 1) := by decide +kernel
theorem dX2_isSumShared_96 : decode cX2_isSumShared 96 = .ok (.invokevirtual 70, 3) := by decide +kernel
theorem dX2_isSumShared_99 : decode cX2_isSumShared 99 = .ok (.aload_n 0, 1) := by decide +kernel
theorem dX2_keptAfter_0 : decode cX2_keptAfter 0 = .ok (.iload_n 1, 1) := by decide +kernel
theorem dX2_keptAfter_1 : decode cX2_keptAfter 1 = .ok (.iload_n 2, 1) := by decide +kernel
theorem dX2_keptAfter_10 : decode cX2_keptAfter 10 = .ok (.iload_n 1, 1) := by decide +kernel
theorem dX2_keptAfter_100 : decode cX2_keptAfter 100 = .ok (.invokevirtual 70, 3) := by decide +kernel
theorem dX2_keptAfter_103 : decode cX2_keptAfter 103 = .ok (.aload_n 0, 1) := by decide +kernel
theorem dX2_keptAfter_104 : decode cX2_keptAfter 104 = .ok (.getfield 22, 3) := by decide +kernel
theorem dX2_keptAfter_107 : decode cX2_keptAfter 107 = .ok (.getfield 34, 3) := by decide +kernel
theorem dX2_keptAfter_11 : decode cX2_keptAfter 11 = .ok (.iload 5, 2) := by decide +kernel
theorem dX2_keptAfter_110 : decode cX2_keptAfter 110 = .ok (.lload_n 3, 1) := by decide +kernel
theorem dX2_keptAfter_111 : decode cX2_keptAfter 111 = .ok (.invokevirtual 38, 3) := by decide +kernel
theorem dX2_keptAfter_114 : decode cX2_keptAfter 114 = .ok (.aload 6, 2) := by decide +kernel
theorem dX2_keptAfter_116 : decode cX2_keptAfter 116 = .ok (.aload_n 0, 1) := by decide +kernel
theorem dX2_keptAfter_117 : decode cX2_keptAfter 117 = .ok (.getfield 22, 3) := by decide +kernel
theorem dX2_keptAfter_120 : decode cX2_keptAfter 120 = .ok (.getfield 34, 3) := by decide +kernel
theorem dX2_keptAfter_123 : decode cX2_keptAfter 123 = .ok (.aload_n 0, 1) := by decide +kernel
theorem dX2_keptAfter_124 : decode cX2_keptAfter 124 = .ok (.getfield 18, 3) := by decide +kernel
theorem dX2_keptAfter_127 : decode cX2_keptAfter 127 = .ok (.getfield 34, 3) := by decide +kernel
theorem dX2_keptAfter_13 : decode cX2_keptAfter 13 = .ok (.invokevirtual 30, 3) := by decide +kernel
theorem dX2_keptAfter_130 : decode cX2_keptAfter 130 = .ok (.invokevirtual 51, 3) := by decide +kernel
theorem dX2_keptAfter_133 : decode cX2_keptAfter 133 = .ok (.lreturn, 1) := by decide +kernel
theorem dX2_keptAfter_16 : decode cX2_keptAfter 16 = .ok (.aload_n 0, 1) := by decide +kernel
theorem dX2_keptAfter_17 : decode cX2_keptAfter 17 = .ok (.aload_n 0, 1) := by decide +kernel
theorem dX2_keptAfter_18 : decode cX2_keptAfter 18 = .ok (.getfield 22, 3) := by decide +kernel
theorem dX2_keptAfter_2 : decode cX2_keptAfter 2 = .ok (.iadd, 1) := by decide +kernel
theorem dX2_keptAfter_21 : decode cX2_keptAfter 21 = .ok (.iload 7, 2) := by decide +kernel
theorem dX2_keptAfter_23 : decode cX2_keptAfter 23 = .ok (.iload 5, 2) := by decide +kernel
theorem dX2_keptAfter_25 : decode cX2_keptAfter 25 = .ok (.invokevirtual 30, 3) := by decide +kernel
theorem dX2_keptAfter_28 : decode cX2_keptAfter 28 = .ok (.aload_n 0, 1) := by decide +kernel
theorem dX2_keptAfter_29 : decode cX2_keptAfter 29 = .ok (.getfield 18, 3) := by decide +kernel
theorem dX2_keptAfter_3 : decode cX2_keptAfter 3 = .ok (.istore 7, 2) := by decide +kernel
theorem dX2_keptAfter_32 : decode cX2_keptAfter 32 = .ok (.getfield 34, 3) := by decide +kernel
theorem dX2_keptAfter_35 : decode cX2_keptAfter 35 = .ok (.aload_n 0, 1) := by decide +kernel
theorem dX2_keptAfter_36 : decode cX2_keptAfter 36 = .ok (.getfield 9, 3) := by decide +kernel
theorem dX2_keptAfter_39 : decode cX2_keptAfter 39 = .ok (.iload 7, 2) := by decide +kernel
theorem dX2_keptAfter_41 : decode cX2_keptAfter 41 = .ok (.iaload, 1) := by decide +kernel
theorem dX2_keptAfter_42 : decode cX2_keptAfter 42 = .ok (.i2l, 1) := by decide +kernel
theorem dX2_keptAfter_43 : decode cX2_keptAfter 43 = .ok (.invokevirtual 38, 3) := by decide +kernel
theorem dX2_keptAfter_46 : decode cX2_keptAfter 46 = .ok (.aload_n 0, 1) := by decide +kernel
theorem dX2_keptAfter_47 : decode cX2_keptAfter 47 = .ok (.getfield 22, 3) := by decide +kernel
theorem dX2_keptAfter_5 : decode cX2_keptAfter 5 = .ok (.aload_n 0, 1) := by decide +kernel
theorem dX2_keptAfter_50 : decode cX2_keptAfter 50 = .ok (.getfield 34, 3) := by decide +kernel
theorem dX2_keptAfter_53 : decode cX2_keptAfter 53 = .ok (.aload_n 0, 1) := by decide +kernel
theorem dX2_keptAfter_54 : decode cX2_keptAfter 54 = .ok (.getfield 9, 3) := by decide +kernel
theorem dX2_keptAfter_57 : decode cX2_keptAfter 57 = .ok (.iload_n 1, 1) := by decide +kernel
theorem dX2_keptAfter_58 : decode cX2_keptAfter 58 = .ok (.iaload, 1) := by decide +kernel
theorem dX2_keptAfter_59 : decode cX2_keptAfter 59 = .ok (.i2l, 1) := by decide +kernel
theorem dX2_keptAfter_6 : decode cX2_keptAfter 6 = .ok (.aload_n 0, 1) := by decide +kernel
theorem dX2_keptAfter_60 : decode cX2_keptAfter 60 = .ok (.invokevirtual 38, 3) := by decide +kernel
theorem dX2_keptAfter_63 : decode cX2_keptAfter 63 = .ok (.aload_n 0, 1) := by decide +kernel
theorem dX2_keptAfter_64 : decode cX2_keptAfter 64 = .ok (.getfield 22, 3) := by decide +kernel
theorem dX2_keptAfter_67 : decode cX2_keptAfter 67 = .ok (.getfield 34, 3) := by decide +kernel
theorem dX2_keptAfter_7 : decode cX2_keptAfter 7 = .ok (.getfield 18, 3) := by decide +kernel
theorem dX2_keptAfter_70 : decode cX2_keptAfter 70 = .ok (.aload_n 0, 1) := by decide +kernel
theorem dX2_keptAfter_71 : decode cX2_keptAfter 71 = .ok (.getfield 18, 3) := by decide +kernel
theorem dX2_keptAfter_74 : decode cX2_keptAfter 74 = .ok (.getfield 60, 3) := by decide +kernel
theorem dX2_keptAfter_77 : decode cX2_keptAfter 77 = .ok (.iload_n 2, 1) := by decide +kernel
theorem dX2_keptAfter_78 : decode cX2_keptAfter 78 = .ok (.invokevirtual 64, 3) := by decide +kernel
theorem dX2_keptAfter_81 : decode cX2_keptAfter 81 = .ok (.aload_n 0, 1) := by decide +kernel
theorem dX2_keptAfter_82 : decode cX2_keptAfter 82 = .ok (.getfield 22, 3) := by decide +kernel
theorem dX2_keptAfter_85 : decode cX2_keptAfter 85 = .ok (.getfield 34, 3) := by decide +kernel
theorem dX2_keptAfter_88 : decode cX2_keptAfter 88 = .ok (.ldc2_w 68, 3) := by decide +kernel
theorem dX2_keptAfter_91 : decode cX2_keptAfter 91 = .ok (.aload_n 0, 1) := by decide +kernel
theorem dX2_keptAfter_92 : decode cX2_keptAfter 92 = .ok (.getfield 18, 3) := by decide +kernel
theorem dX2_keptAfter_95 : decode cX2_keptAfter 95 = .ok (.getfield 34, 3) := by decide +kernel
theorem dX2_keptAfter_98 : decode cX2_keptAfter 98 = .ok (.lconst 1, 1) := by decide +kernel
theorem dX2_keptAfter_99 : decode cX2_keptAfter 99 = .ok (.iconst 0, 1) := by decide +kernel
theorem dX2_mostLeftNext_0 : decode cX2_mostLeftNext 0 = .ok (.aload_n 0, 1) := by decide +kernel
theorem dX2_mostLeftNext_1 : decode cX2_mostLeftNext 1 = .ok (.getfield 25, 3) := by decide +kernel
theorem dX2_mostLeftNext_12 : decode cX2_mostLeftNext 12 = .ok (.aload_n 0, 1) := by decide +kernel
theorem dX2_mostLeftNext_13 : decode cX2_mostLeftNext 13 = .ok (.getfield 9, 3) := by decide +kernel
theorem dX2_mostLeftNext_16 : decode cX2_mostLeftNext 16 = .ok (.aload_n 0, 1) := by decide +kernel
theorem dX2_mostLeftNext_17 : decode cX2_mostLeftNext 17 = .ok (.getfield 25, 3) := by decide +kernel
theorem dX2_mostLeftNext_20 : decode cX2_mostLeftNext 20 = .ok (.iconst 1, 1) := by decide +kernel
theorem dX2_mostLeftNext_21 : decode cX2_mostLeftNext 21 = .ok (.isub, 1) := by decide +kernel
theorem dX2_mostLeftNext_22 : decode cX2_mostLeftNext 22 = .ok (.iaload, 1) := by decide +kernel
theorem dX2_mostLeftNext_23 : decode cX2_mostLeftNext 23 = .ok (.ireturn, 1) := by decide +kernel
theorem dX2_mostLeftNext_4 : decode cX2_mostLeftNext 4 = .ok (.ifCond .ne 8, 3) := by decide +kernel
theorem dX2_mostLeftNext_7 : decode cX2_mostLeftNext 7 = .ok (.ldc 29, 2) := by decide +kernel
theorem dX2_mostLeftNext_9 : decode cX2_mostLeftNext 9 = .ok (.goto 14, 3) := by decide +kernel
theorem dX2_worthOfDeath_0 : decode cX2_worthOfDeath 0 = .ok (.aload_n 0, 1) := by decide +kernel
theorem dX2_worthOfDeath_1 : decode cX2_worthOfDeath 1 = .ok (.aload_n 0, 1) := by decide +kernel
theorem dX2_worthOfDeath_11 : decode cX2_worthOfDeath 11 = .ok (.aload_n 0, 1) := by decide +kernel
theorem dX2_worthOfDeath_12 : decode cX2_worthOfDeath 12 = .ok (.getfield 18, 3) := by decide +kernel
theorem dX2_worthOfDeath_15 : decode cX2_worthOfDeath 15 = .ok (.getfield 34, 3) := by decide +kernel
theorem dX2_worthOfDeath_18 : decode cX2_worthOfDeath 18 = .ok (.lload_n 2, 1) := by decide +kernel
theorem dX2_worthOfDeath_19 : decode cX2_worthOfDeath 19 = .ok (.invokevirtual 38, 3) := by decide +kernel
theorem dX2_worthOfDeath_2 : decode cX2_worthOfDeath 2 = .ok (.getfield 18, 3) := by decide +kernel
theorem dX2_worthOfDeath_22 : decode cX2_worthOfDeath 22 = .ok (.aload 5, 2) := by decide +kernel
theorem dX2_worthOfDeath_24 : decode cX2_worthOfDeath 24 = .ok (.aload_n 0, 1) := by decide +kernel
theorem dX2_worthOfDeath_25 : decode cX2_worthOfDeath 25 = .ok (.getfield 18, 3) := by decide +kernel
theorem dX2_worthOfDeath_28 : decode cX2_worthOfDeath 28 = .ok (.getfield 34, 3) := by decide +kernel
theorem dX2_worthOfDeath_31 : decode cX2_worthOfDeath 31 = .ok (.aload_n 0, 1) := by decide +kernel
theorem dX2_worthOfDeath_32 : decode cX2_worthOfDeath 32 = .ok (.getfield 18, 3) := by decide +kernel
theorem dX2_worthOfDeath_35 : decode cX2_worthOfDeath 35 = .ok (.aload_n 0, 1) := by decide +kernel
theorem dX2_worthOfDeath_36 : decode cX2_worthOfDeath 36 = .ok (.getfield 9, 3) := by decide +kernel
theorem dX2_worthOfDeath_39 : decode cX2_worthOfDeath 39 = .ok (.iload_n 1, 1) := by decide +kernel
theorem dX2_worthOfDeath_40 : decode cX2_worthOfDeath 40 = .ok (.iaload, 1) := by decide +kernel
theorem dX2_worthOfDeath_41 : decode cX2_worthOfDeath 41 = .ok (.i2l, 1) := by decide +kernel
theorem dX2_worthOfDeath_42 : decode cX2_worthOfDeath 42 = .ok (.aload_n 0, 1) := by decide +kernel
theorem dX2_worthOfDeath_43 : decode cX2_worthOfDeath 43 = .ok (.getfield 18, 3) := by decide +kernel
theorem dX2_worthOfDeath_46 : decode cX2_worthOfDeath 46 = .ok (.getfield 44, 3) := by decide +kernel
theorem dX2_worthOfDeath_49 : decode cX2_worthOfDeath 49 = .ok (.invokevirtual 47, 3) := by decide +kernel
theorem dX2_worthOfDeath_5 : decode cX2_worthOfDeath 5 = .ok (.iload_n 1, 1) := by decide +kernel
theorem dX2_worthOfDeath_52 : decode cX2_worthOfDeath 52 = .ok (.invokevirtual 51, 3) := by decide +kernel
theorem dX2_worthOfDeath_55 : decode cX2_worthOfDeath 55 = .ok (.lreturn, 1) := by decide +kernel
theorem dX2_worthOfDeath_6 : decode cX2_worthOfDeath 6 = .ok (.iload 4, 2) := by decide +kernel
theorem dX2_worthOfDeath_8 : decode cX2_worthOfDeath 8 = .ok (.invokevirtual 57, 3) := by decide +kernel
theorem dX2_worthOfLife_0 : decode cX2_worthOfLife 0 = .ok (.aload_n 0, 1) := by decide +kernel
theorem dX2_worthOfLife_1 : decode cX2_worthOfLife 1 = .ok (.aload_n 0, 1) := by decide +kernel
theorem dX2_worthOfLife_11 : decode cX2_worthOfLife 11 = .ok (.aload_n 0, 1) := by decide +kernel
theorem dX2_worthOfLife_12 : decode cX2_worthOfLife 12 = .ok (.getfield 18, 3) := by decide +kernel
theorem dX2_worthOfLife_15 : decode cX2_worthOfLife 15 = .ok (.getfield 34, 3) := by decide +kernel
theorem dX2_worthOfLife_18 : decode cX2_worthOfLife 18 = .ok (.lload_n 2, 1) := by decide +kernel
theorem dX2_worthOfLife_19 : decode cX2_worthOfLife 19 = .ok (.invokevirtual 38, 3) := by decide +kernel
theorem dX2_worthOfLife_2 : decode cX2_worthOfLife 2 = .ok (.getfield 18, 3) := by decide +kernel
theorem dX2_worthOfLife_22 : decode cX2_worthOfLife 22 = .ok (.aload 5, 2) := by decide +kernel
theorem dX2_worthOfLife_24 : decode cX2_worthOfLife 24 = .ok (.aload_n 0, 1) := by decide +kernel
theorem dX2_worthOfLife_25 : decode cX2_worthOfLife 25 = .ok (.getfield 18, 3) := by decide +kernel
theorem dX2_worthOfLife_28 : decode cX2_worthOfLife 28 = .ok (.getfield 34, 3) := by decide +kernel
theorem dX2_worthOfLife_31 : decode cX2_worthOfLife 31 = .ok (.aload_n 0, 1) := by decide +kernel
theorem dX2_worthOfLife_32 : decode cX2_worthOfLife 32 = .ok (.getfield 18, 3) := by decide +kernel
theorem dX2_worthOfLife_35 : decode cX2_worthOfLife 35 = .ok (.aload_n 0, 1) := by decide +kernel
theorem dX2_worthOfLife_36 : decode cX2_worthOfLife 36 = .ok (.getfield 9, 3) := by decide +kernel
theorem dX2_worthOfLife_39 : decode cX2_worthOfLife 39 = .ok (.iload_n 1, 1) := by decide +kernel
theorem dX2_worthOfLife_40 : decode cX2_worthOfLife 40 = .ok (.iaload, 1) := by decide +kernel
theorem dX2_worthOfLife_41 : decode cX2_worthOfLife 41 = .ok (.i2l, 1) := by decide +kernel
theorem dX2_worthOfLife_42 : decode cX2_worthOfLife 42 = .ok (.aload_n 0, 1) := by decide +kernel
theorem dX2_worthOfLife_43 : decode cX2_worthOfLife 43 = .ok (.getfield 18, 3) := by decide +kernel
theorem dX2_worthOfLife_46 : decode cX2_worthOfLife 46 = .ok (.getfield 44, 3) := by decide +kernel
theorem dX2_worthOfLife_49 : decode cX2_worthOfLife 49 = .ok (.invokevirtual 47, 3) := by decide +kernel
theorem dX2_worthOfLife_5 : decode cX2_worthOfLife 5 = .ok (.iload_n 1, 1) := by decide +kernel
theorem dX2_worthOfLife_52 : decode cX2_worthOfLife 52 = .ok (.invokevirtual 51, 3) := by decide +kernel
theorem dX2_worthOfLife_55 : decode cX2_worthOfLife 55 = .ok (.lreturn, 1) := by decide +kernel
theorem dX2_worthOfLife_6 : decode cX2_worthOfLife 6 = .ok (.iload 4, 2) := by decide +kernel
theorem dX2_worthOfLife_8 : decode cX2_worthOfLife 8 = .ok (.invokevirtual 30, 3) := by decide +kernel
theorem dX2_yearlyPremium_0 : decode cX2_yearlyPremium 0 = .ok (.aload_n 0, 1) := by decide +kernel
theorem dX2_yearlyPremium_1 : decode cX2_yearlyPremium 1 = .ok (.aload_n 0, 1) := by decide +kernel
theorem dX2_yearlyPremium_11 : decode cX2_yearlyPremium 11 = .ok (.aload_n 0, 1) := by decide +kernel
theorem dX2_yearlyPremium_12 : decode cX2_yearlyPremium 12 = .ok (.aload_n 0, 1) := by decide +kernel
theorem dX2_yearlyPremium_13 : decode cX2_yearlyPremium 13 = .ok (.getfield 22, 3) := by decide +kernel
theorem dX2_yearlyPremium_16 : decode cX2_yearlyPremium 16 = .ok (.iload_n 1, 1) := by decide +kernel
theorem dX2_yearlyPremium_17 : decode cX2_yearlyPremium 17 = .ok (.iload 4, 2) := by decide +kernel
theorem dX2_yearlyPremium_19 : decode cX2_yearlyPremium 19 = .ok (.invokevirtual 30, 3) := by decide +kernel
theorem dX2_yearlyPremium_2 : decode cX2_yearlyPremium 2 = .ok (.getfield 18, 3) := by decide +kernel
theorem dX2_yearlyPremium_22 : decode cX2_yearlyPremium 22 = .ok (.aload_n 0, 1) := by decide +kernel
theorem dX2_yearlyPremium_23 : decode cX2_yearlyPremium 23 = .ok (.getfield 18, 3) := by decide +kernel
theorem dX2_yearlyPremium_26 : decode cX2_yearlyPremium 26 = .ok (.getfield 34, 3) := by decide +kernel
theorem dX2_yearlyPremium_29 : decode cX2_yearlyPremium 29 = .ok (.lload_n 2, 1) := by decide +kernel
theorem dX2_yearlyPremium_30 : decode cX2_yearlyPremium 30 = .ok (.invokevirtual 38, 3) := by decide +kernel
theorem dX2_yearlyPremium_33 : decode cX2_yearlyPremium 33 = .ok (.aload_n 0, 1) := by decide +kernel
theorem dX2_yearlyPremium_34 : decode cX2_yearlyPremium 34 = .ok (.getfield 22, 3) := by decide +kernel
theorem dX2_yearlyPremium_37 : decode cX2_yearlyPremium 37 = .ok (.getfield 34, 3) := by decide +kernel
theorem dX2_yearlyPremium_40 : decode cX2_yearlyPremium 40 = .ok (.aload_n 0, 1) := by decide +kernel
theorem dX2_yearlyPremium_41 : decode cX2_yearlyPremium 41 = .ok (.getfield 18, 3) := by decide +kernel
theorem dX2_yearlyPremium_44 : decode cX2_yearlyPremium 44 = .ok (.getfield 60, 3) := by decide +kernel
theorem dX2_yearlyPremium_47 : decode cX2_yearlyPremium 47 = .ok (.invokevirtual 38, 3) := by decide +kernel
theorem dX2_yearlyPremium_5 : decode cX2_yearlyPremium 5 = .ok (.iload_n 1, 1) := by decide +kernel
theorem dX2_yearlyPremium_50 : decode cX2_yearlyPremium 50 = .ok (.aload 5, 2) := by decide +kernel
theorem dX2_yearlyPremium_52 : decode cX2_yearlyPremium 52 = .ok (.aload_n 0, 1) := by decide +kernel
theorem dX2_yearlyPremium_53 : decode cX2_yearlyPremium 53 = .ok (.getfield 18, 3) := by decide +kernel
theorem dX2_yearlyPremium_56 : decode cX2_yearlyPremium 56 = .ok (.getfield 34, 3) := by decide +kernel
theorem dX2_yearlyPremium_59 : decode cX2_yearlyPremium 59 = .ok (.aload_n 0, 1) := by decide +kernel
theorem dX2_yearlyPremium_6 : decode cX2_yearlyPremium 6 = .ok (.iload 4, 2) := by decide +kernel
theorem dX2_yearlyPremium_60 : decode cX2_yearlyPremium 60 = .ok (.getfield 22, 3) := by decide +kernel
theorem dX2_yearlyPremium_63 : decode cX2_yearlyPremium 63 = .ok (.getfield 34, 3) := by decide +kernel
theorem dX2_yearlyPremium_66 : decode cX2_yearlyPremium 66 = .ok (.invokevirtual 51, 3) := by decide +kernel
theorem dX2_yearlyPremium_69 : decode cX2_yearlyPremium 69 = .ok (.lreturn, 1) := by decide +kernel
theorem dX2_yearlyPremium_8 : decode cX2_yearlyPremium 8 = .ok (.invokevirtual 57, 3) := by decide +kernel
set_option maxRecDepth 20000 in
theorem ggX2_carryDeath_X1_begin : GoodIn wsX2_carryDeath wsX1_begin := goodIn_r _ [7, 8, 9, 10, 6, 11, 12, 13, 14, 15, 16, 17, 18, 19, 20, 21, 22, 23, 24, 25, 26, 27, 28, 29, 30, 31, 32, 33, 34, 35, 36, 37, 38, 80, 81, 82, 83, 84, 85, 86, 87, 88] (by decide +kernel) (by decide +kernel)
set_option maxRecDepth 20000 in
theorem gX2_carryDeath_X1_begin : GoodIn wsX2_carryDeath (wsV RX2 81 RX1 yX1_begin wsX1_begin) := goodIn_app (goodIn_of _ (by decide +kernel)) ggX2_carryDeath_X1_begin
set_option maxRecDepth 20000 in
theorem ggX2_carryDeath_X1_next : GoodIn wsX2_carryDeath wsX1_next := goodIn_r _ [42, 25, 22, 24, 21, 23, 43, 44, 45, 29, 46, 35, 36, 37, 38, 47, 48, 49, 50, 51, 52, 53, 54, 55, 56, 57, 58, 59, 60, 61, 62, 63, 15, 64, 65, 66, 67, 68, 31, 32, 33, 34, 69, 70, 71, 72, 73, 74, 75, 80, 81, 82, 83, 84, 85, 86, 87, 88] (by decide +kernel) (by decide +kernel)
set_option maxRecDepth 20000 in
theorem gX2_carryDeath_X1_next : GoodIn wsX2_carryDeath (wsV RX2 85 RX1 yX1_next wsX1_next) := goodIn_app (goodIn_of _ (by decide +kernel)) ggX2_carryDeath_X1_next
set_option maxRecDepth 20000 in
theorem ggX2_carryLife_X1_begin : GoodIn wsX2_carryLife wsX1_begin := goodIn_r _ [7, 8, 9, 10, 6, 11, 12, 13, 14, 15, 16, 17, 18, 19, 20, 21, 22, 23, 24, 25, 26, 27, 28, 29, 30, 31, 32, 33, 34, 35, 36, 37, 38, 80, 81, 82, 83, 84, 85, 86, 87, 88] (by decide +kernel) (by decide +kernel)
set_option maxRecDepth 20000 in
theorem gX2_carryLife_X1_begin : GoodIn wsX2_carryLife (wsV RX2 81 RX1 yX1_begin wsX1_begin) := goodIn_app (goodIn_of _ (by decide +kernel)) ggX2_carryLife_X1_begin
set_option maxRecDepth 20000 in
theorem ggX2_carryLife_X1_next : GoodIn wsX2_carryLife wsX1_next := goodIn_r _ [42, 25, 22, 24, 21, 23, 43, 44, 45, 29, 46, 35, 36, 37, 38, 47, 48, 49, 50, 51, 52, 53, 54, 55, 56, 57, 58, 59, 60, 61, 62, 63, 15, 64, 65, 66, 67, 68, 31, 32, 33, 34, 69, 70, 71, 72, 73, 74, 75, 80, 81, 82, 83, 84, 85, 86, 87, 88] (by decide +kernel) (by decide +kernel)
set_option maxRecDepth 20000 in
theorem gX2_carryLife_X1_next : GoodIn wsX2_carryLife (wsV RX2 85 RX1 yX1_next wsX1_next) := goodIn_app (goodIn_of _ (by decide +kernel)) ggX2_carryLife_X1_next
set_option maxRecDepth 20000 in
theorem ggX2_init_X1_init : GoodIn wsX2_init wsX1_init := goodIn_r _ [13, 14, 2, 3, 15, 16, 17, 18, 19, 20, 21, 22, 23, 24, 25, 26, 27, 28, 29, 30, 41, 42, 43, 35, 36, 37, 38, 39, 40] (by decide +kernel) (by decide +kernel)
set_option maxRecDepth 20000 in
theorem gX2_init_X1_init_n17 : GoodIn wsX2_init (wsX1_init) := ggX2_init_X1_init
set_option maxRecDepth 20000 in
theorem ggX2_isSumShared_X1_upPower : GoodIn wsX2_isSumShared wsX1_upPower := goodIn_r _ [96, 97, 33, 38, 39, 40, 41, 42, 43, 44, 45, 46, 47, 48, 49, 50, 98, 99, 100, 101, 102, 56, 57, 58, 59, 60, 61, 62, 63, 64, 65, 66, 67, 68, 69, 70, 71, 72, 73, 74, 75, 27, 76, 77, 78, 79, 80, 111, 112, 113, 114, 115, 116, 117, 118, 119] (by decide +kernel) (by decide +kernel)
set_option maxRecDepth 20000 in
theorem gX2_isSumShared_X1_upPower : GoodIn wsX2_isSumShared (wsV RX2 47 RX1 yX1_upPower wsX1_upPower) := goodIn_app (goodIn_of _ (by decide +kernel)) ggX2_isSumShared_X1_upPower
set_option maxRecDepth 20000 in
theorem ggX2_isSumShared_X2_carryDeath : GoodIn wsX2_isSumShared wsX2_carryDeath := goodIn_r _ [14, 1, 7, 15, 16, 17, 18, 19, 20, 21, 22, 23, 24, 25, 26, 27, 28, 29, 30, 31, 32, 33, 34, 35, 36, 37, 38, 39, 40, 41, 42, 43, 44, 45, 46, 47, 48, 49, 50, 51, 52, 53, 54, 55, 56, 57, 58, 59, 60, 61, 62, 63, 64, 65, 66, 67, 68, 69, 70, 71, 72, 73, 74, 75, 76, 77, 78, 79, 80, 81, 82, 83, 84, 85, 86, 87, 107, 108, 109, 110, 111, 112, 113, 114, 115, 116, 117, 118, 119] (by decide +kernel) (by decide +kernel)
set_option maxRecDepth 20000 in
theorem gX2_isSumShared_X2_carryDeath : GoodIn wsX2_isSumShared (wsV RX2 57 RX2 yX2_carryDeath wsX2_carryDeath) := goodIn_app (goodIn_of _ (by decide +kernel)) ggX2_isSumShared_X2_carryDeath
set_option maxRecDepth 20000 in
theorem ggX2_isSumShared_X2_carryLife : GoodIn wsX2_isSumShared wsX2_carryLife := goodIn_r _ [91, 7, 1, 15, 16, 17, 18, 19, 20, 21, 22, 23, 24, 25, 26, 27, 28, 29, 30, 31, 32, 33, 34, 35, 36, 37, 38, 39, 40, 41, 42, 43, 44, 45, 46, 47, 48, 49, 50, 51, 52, 53, 54, 55, 56, 57, 58, 59, 60, 61, 62, 63, 64, 65, 66, 67, 68, 69, 70, 71, 72, 73, 74, 75, 76, 77, 78, 79, 80, 81, 82, 83, 84, 85, 86, 87, 107, 108, 109, 110, 111, 112, 113, 114, 115, 116, 117, 118, 119] (by decide +kernel) (by decide +kernel)
set_option maxRecDepth 20000 in
theorem gX2_isSumShared_X2_carryLife : GoodIn wsX2_isSumShared (wsV RX2 30 RX2 yX2_carryLife wsX2_carryLife) := goodIn_app (goodIn_of _ (by decide +kernel)) ggX2_isSumShared_X2_carryLife
set_option maxRecDepth 20000 in
theorem ggX2_isSumShared_X8_combine : GoodIn wsX2_isSumShared wsX8_combine := goodIn_r _ [84, 47, 85, 86, 27, 87, 48, 50, 49, 59, 60, 61, 41, 62, 63, 64, 65, 66, 67, 68, 69, 70, 71, 72, 73, 74, 75, 76, 77, 78, 79, 80, 43, 44, 45, 46, 117, 118, 119] (by decide +kernel) (by decide +kernel)
set_option maxRecDepth 20000 in
theorem gX2_isSumShared_X8_combine : GoodIn wsX2_isSumShared (wsV RX2 70 RX8 yX8_combine wsX8_combine) := goodIn_app (goodIn_of _ (by decide +kernel)) ggX2_isSumShared_X8_combine
set_option maxRecDepth 20000 in
theorem ggX2_isSumShared_X8_sign : GoodIn wsX2_isSumShared wsX8_sign := goodIn_r _ [106, 50, 47, 117, 118, 119] (by decide +kernel) (by decide +kernel)
set_option maxRecDepth 20000 in
theorem gX2_isSumShared_X8_sign : GoodIn wsX2_isSumShared (wsV RX2 77 RX8 yX8_sign wsX8_sign) := goodIn_app (goodIn_of _ (by decide +kernel)) ggX2_isSumShared_X8_sign
set_option maxRecDepth 20000 in
theorem ggX2_keptAfter_X2_carryLife : GoodIn wsX2_keptAfter wsX2_carryLife := goodIn_r _ [11, 4, 12, 13, 14, 15, 16, 17, 18, 19, 20, 21, 22, 23, 24, 25, 26, 27, 28, 29, 30, 31, 32, 33, 34, 35, 36, 37, 38, 39, 40, 41, 42, 43, 44, 45, 46, 47, 48, 49, 50, 51, 52, 53, 54, 55, 56, 57, 58, 59, 60, 61, 62, 63, 64, 65, 66, 67, 68, 69, 70, 71, 72, 73, 74, 75, 76, 77, 78, 79, 80, 81, 82, 83, 84, 85, 142, 143, 144, 145, 146, 147, 148, 149, 150, 151, 152, 153, 154] (by decide +kernel) (by decide +kernel)
set_option maxRecDepth 20000 in
theorem gX2_keptAfter_X2_carryLife : GoodIn wsX2_keptAfter (wsV RX2 30 RX2 yX2_carryLife wsX2_carryLife) := goodIn_app (goodIn_of _ (by decide +kernel)) ggX2_keptAfter_X2_carryLife
set_option maxRecDepth 20000 in
theorem ggX2_keptAfter_X4_ratio_ : GoodIn wsX2_keptAfter wsX4_ratio_ := goodIn_ca (goodIn_r _ [97, 98, 99, 100, 101, 102, 39, 103, 48, 45, 104, 54, 55, 56, 46, 47, 57, 58, 59, 60, 61, 62, 63, 64, 65, 66, 67, 68, 69, 70, 71, 72, 73, 25, 74, 75, 76, 77, 78, 41, 42, 43, 44, 105, 106, 107, 108, 109, 110, 24, 26, 111, 112, 113, 114, 115, 116, 117, 118, 91, 119, 120, 121, 122, 123, 80, 81, 82, 83, 84, 85, 124, 125, 126, 96, 127, 128, 129, 130, 131, 132, 133, 134, 135, 136, 137, 138, 139, 140, 141, 152, 153, 154, 155] (by decide +kernel) (by decide +kernel)) (goodIn_sub (fun _ h => List.mem_cons_of_mem _ (List.mem_append_right _ h)) (by decide +kernel))
set_option maxRecDepth 20000 in
theorem gX2_keptAfter_X4_ratio_ : GoodIn wsX2_keptAfter (wsV RX2 51 RX4 yX4_ratio_ wsX4_ratio_) := goodIn_app (goodIn_of _ (by decide +kernel)) ggX2_keptAfter_X4_ratio_
set_option maxRecDepth 20000 in
theorem ggX2_keptAfter_X8_combine : GoodIn wsX2_keptAfter wsX8_combine := goodIn_r _ [82, 45, 83, 84, 25, 85, 46, 48, 47, 57, 58, 59, 39, 60, 61, 62, 63, 64, 65, 66, 67, 68, 69, 70, 71, 72, 73, 74, 75, 76, 77, 78, 41, 42, 43, 44, 152, 153, 154] (by decide +kernel) (by decide +kernel)
set_option maxRecDepth 20000 in
theorem gX2_keptAfter_X8_combine : GoodIn wsX2_keptAfter (wsV RX2 70 RX8 yX8_combine wsX8_combine) := goodIn_app (goodIn_of _ (by decide +kernel)) ggX2_keptAfter_X8_combine
set_option maxRecDepth 20000 in
theorem ggX2_keptAfter_X8_times : GoodIn wsX2_keptAfter wsX8_times := goodIn_r _ [56, 45, 46, 47, 48, 57, 58, 59, 39, 60, 61, 62, 63, 64, 65, 66, 67, 68, 69, 70, 71, 72, 73, 25, 74, 75, 76, 77, 78, 41, 42, 43, 44, 152, 153, 154] (by decide +kernel) (by decide +kernel)
set_option maxRecDepth 20000 in
theorem gX2_keptAfter_X8_times : GoodIn wsX2_keptAfter (wsV RX2 38 RX8 yX8_times wsX8_times) := goodIn_app (goodIn_of _ (by decide +kernel)) ggX2_keptAfter_X8_times
set_option maxRecDepth 20000 in
theorem ggX2_keptAfter_X8_timesPower : GoodIn wsX2_keptAfter wsX8_timesPower := goodIn_r _ [90, 91, 54, 55, 39, 56, 45, 46, 47, 48, 57, 58, 59, 60, 61, 62, 63, 64, 65, 66, 67, 68, 69, 70, 71, 72, 73, 25, 74, 75, 76, 77, 78, 41, 42, 43, 44, 152, 153, 154] (by decide +kernel) (by decide +kernel)
set_option maxRecDepth 20000 in
theorem gX2_keptAfter_X8_timesPower : GoodIn wsX2_keptAfter (wsV RX2 64 RX8 yX8_timesPower wsX8_timesPower) := goodIn_app (goodIn_of _ (by decide +kernel)) ggX2_keptAfter_X8_timesPower
set_option maxRecDepth 20000 in
theorem ggX2_worthOfDeath_X1_upPower : GoodIn wsX2_worthOfDeath wsX1_upPower := goodIn_r _ [88, 89, 29, 34, 35, 36, 37, 38, 39, 40, 41, 42, 43, 44, 45, 46, 90, 91, 92, 93, 94, 52, 53, 54, 55, 56, 57, 58, 59, 60, 61, 62, 63, 64, 65, 66, 67, 68, 69, 70, 71, 23, 72, 73, 74, 75, 76, 148, 149, 150, 151, 152, 153, 154, 155, 156] (by decide +kernel) (by decide +kernel)
set_option maxRecDepth 20000 in
theorem gX2_worthOfDeath_X1_upPower : GoodIn wsX2_worthOfDeath (wsV RX2 47 RX1 yX1_upPower wsX1_upPower) := goodIn_app (goodIn_of _ (by decide +kernel)) ggX2_worthOfDeath_X1_upPower
set_option maxRecDepth 20000 in
theorem ggX2_worthOfDeath_X2_carryDeath : GoodIn wsX2_worthOfDeath wsX2_carryDeath := goodIn_r _ [9, 10, 3, 11, 12, 13, 14, 15, 16, 17, 18, 19, 20, 21, 22, 23, 24, 25, 26, 27, 28, 29, 30, 31, 32, 33, 34, 35, 36, 37, 38, 39, 40, 41, 42, 43, 44, 45, 46, 47, 48, 49, 50, 51, 52, 53, 54, 55, 56, 57, 58, 59, 60, 61, 62, 63, 64, 65, 66, 67, 68, 69, 70, 71, 72, 73, 74, 75, 76, 77, 78, 79, 80, 81, 82, 83, 144, 145, 146, 147, 148, 149, 150, 151, 152, 153, 154, 155, 156] (by decide +kernel) (by decide +kernel)
set_option maxRecDepth 20000 in
theorem gX2_worthOfDeath_X2_carryDeath : GoodIn wsX2_worthOfDeath (wsV RX2 57 RX2 yX2_carryDeath wsX2_carryDeath) := goodIn_app (goodIn_of _ (by decide +kernel)) ggX2_worthOfDeath_X2_carryDeath
set_option maxRecDepth 20000 in
theorem ggX2_worthOfDeath_X4_ratio_ : GoodIn wsX2_worthOfDeath wsX4_ratio_ := goodIn_ca (goodIn_r _ [99, 100, 101, 102, 103, 104, 37, 105, 46, 43, 106, 52, 53, 54, 44, 45, 55, 56, 57, 58, 59, 60, 61, 62, 63, 64, 65, 66, 67, 68, 69, 70, 71, 23, 72, 73, 74, 75, 76, 39, 40, 41, 42, 107, 108, 109, 110, 111, 112, 22, 24, 113, 114, 115, 116, 117, 118, 119, 120, 94, 121, 122, 123, 124, 125, 78, 79, 80, 81, 82, 83, 126, 127, 128, 98, 129, 130, 131, 132, 133, 134, 135, 136, 137, 138, 139, 140, 141, 142, 143, 154, 155, 156, 157] (by decide +kernel) (by decide +kernel)) (goodIn_sub (fun _ h => List.mem_cons_of_mem _ (List.mem_append_right _ h)) (by decide +kernel))
set_option maxRecDepth 20000 in
theorem gX2_worthOfDeath_X4_ratio_ : GoodIn wsX2_worthOfDeath (wsV RX2 51 RX4 yX4_ratio_ wsX4_ratio_) := goodIn_app (goodIn_of _ (by decide +kernel)) ggX2_worthOfDeath_X4_ratio_
set_option maxRecDepth 20000 in
theorem ggX2_worthOfDeath_X8_times : GoodIn wsX2_worthOfDeath wsX8_times := goodIn_r _ [54, 43, 44, 45, 46, 55, 56, 57, 37, 58, 59, 60, 61, 62, 63, 64, 65, 66, 67, 68, 69, 70, 71, 23, 72, 73, 74, 75, 76, 39, 40, 41, 42, 154, 155, 156] (by decide +kernel) (by decide +kernel)
set_option maxRecDepth 20000 in
theorem gX2_worthOfDeath_X8_times : GoodIn wsX2_worthOfDeath (wsV RX2 38 RX8 yX8_times wsX8_times) := goodIn_app (goodIn_of _ (by decide +kernel)) ggX2_worthOfDeath_X8_times
set_option maxRecDepth 20000 in
theorem ggX2_worthOfLife_X1_upPower : GoodIn wsX2_worthOfLife wsX1_upPower := goodIn_r _ [88, 89, 29, 34, 35, 36, 37, 38, 39, 40, 41, 42, 43, 44, 45, 46, 90, 91, 92, 93, 94, 52, 53, 54, 55, 56, 57, 58, 59, 60, 61, 62, 63, 64, 65, 66, 67, 68, 69, 70, 71, 23, 72, 73, 74, 75, 76, 148, 149, 150, 151, 152, 153, 154, 155, 156] (by decide +kernel) (by decide +kernel)
set_option maxRecDepth 20000 in
theorem gX2_worthOfLife_X1_upPower : GoodIn wsX2_worthOfLife (wsV RX2 47 RX1 yX1_upPower wsX1_upPower) := goodIn_app (goodIn_of _ (by decide +kernel)) ggX2_worthOfLife_X1_upPower
set_option maxRecDepth 20000 in
theorem ggX2_worthOfLife_X2_carryLife : GoodIn wsX2_worthOfLife wsX2_carryLife := goodIn_r _ [9, 3, 10, 11, 12, 13, 14, 15, 16, 17, 18, 19, 20, 21, 22, 23, 24, 25, 26, 27, 28, 29, 30, 31, 32, 33, 34, 35, 36, 37, 38, 39, 40, 41, 42, 43, 44, 45, 46, 47, 48, 49, 50, 51, 52, 53, 54, 55, 56, 57, 58, 59, 60, 61, 62, 63, 64, 65, 66, 67, 68, 69, 70, 71, 72, 73, 74, 75, 76, 77, 78, 79, 80, 81, 82, 83, 144, 145, 146, 147, 148, 149, 150, 151, 152, 153, 154, 155, 156] (by decide +kernel) (by decide +kernel)
set_option maxRecDepth 20000 in
theorem gX2_worthOfLife_X2_carryLife : GoodIn wsX2_worthOfLife (wsV RX2 30 RX2 yX2_carryLife wsX2_carryLife) := goodIn_app (goodIn_of _ (by decide +kernel)) ggX2_worthOfLife_X2_carryLife
set_option maxRecDepth 20000 in
theorem ggX2_worthOfLife_X4_ratio_ : GoodIn wsX2_worthOfLife wsX4_ratio_ := goodIn_ca (goodIn_r _ [99, 100, 101, 102, 103, 104, 37, 105, 46, 43, 106, 52, 53, 54, 44, 45, 55, 56, 57, 58, 59, 60, 61, 62, 63, 64, 65, 66, 67, 68, 69, 70, 71, 23, 72, 73, 74, 75, 76, 39, 40, 41, 42, 107, 108, 109, 110, 111, 112, 22, 24, 113, 114, 115, 116, 117, 118, 119, 120, 94, 121, 122, 123, 124, 125, 78, 79, 80, 81, 82, 83, 126, 127, 128, 98, 129, 130, 131, 132, 133, 134, 135, 136, 137, 138, 139, 140, 141, 142, 143, 154, 155, 156, 157] (by decide +kernel) (by decide +kernel)) (goodIn_sub (fun _ h => List.mem_cons_of_mem _ (List.mem_append_right _ h)) (by decide +kernel))
set_option maxRecDepth 20000 in
theorem gX2_worthOfLife_X4_ratio_ : GoodIn wsX2_worthOfLife (wsV RX2 51 RX4 yX4_ratio_ wsX4_ratio_) := goodIn_app (goodIn_of _ (by decide +kernel)) ggX2_worthOfLife_X4_ratio_
set_option maxRecDepth 20000 in
theorem ggX2_worthOfLife_X8_times : GoodIn wsX2_worthOfLife wsX8_times := goodIn_r _ [54, 43, 44, 45, 46, 55, 56, 57, 37, 58, 59, 60, 61, 62, 63, 64, 65, 66, 67, 68, 69, 70, 71, 23, 72, 73, 74, 75, 76, 39, 40, 41, 42, 154, 155, 156] (by decide +kernel) (by decide +kernel)
set_option maxRecDepth 20000 in
theorem gX2_worthOfLife_X8_times : GoodIn wsX2_worthOfLife (wsV RX2 38 RX8 yX8_times wsX8_times) := goodIn_app (goodIn_of _ (by decide +kernel)) ggX2_worthOfLife_X8_times
set_option maxRecDepth 20000 in
theorem ggX2_yearlyPremium_X2_carryDeath : GoodIn wsX2_yearlyPremium wsX2_carryDeath := goodIn_r _ [9, 10, 11, 12, 13, 14, 15, 16, 17, 18, 19, 20, 21, 22, 23, 24, 25, 26, 27, 28, 29, 30, 31, 32, 33, 34, 35, 36, 37, 38, 39, 40, 41, 42, 43, 44, 45, 46, 47, 48, 49, 50, 51, 52, 53, 54, 55, 56, 57, 58, 59, 60, 61, 62, 63, 64, 65, 66, 67, 68, 69, 70, 71, 72, 73, 74, 75, 76, 77, 78, 79, 80, 81, 82, 83, 84, 140, 141, 142, 143, 144, 145, 146, 147, 148, 149, 150, 151, 152] (by decide +kernel) (by decide +kernel)
set_option maxRecDepth 20000 in
theorem gX2_yearlyPremium_X2_carryDeath : GoodIn wsX2_yearlyPremium (wsV RX2 57 RX2 yX2_carryDeath wsX2_carryDeath) := goodIn_app (goodIn_of _ (by decide +kernel)) ggX2_yearlyPremium_X2_carryDeath
set_option maxRecDepth 20000 in
theorem ggX2_yearlyPremium_X2_carryLife : GoodIn wsX2_yearlyPremium wsX2_carryLife := goodIn_r _ [88, 11, 10, 12, 13, 14, 15, 16, 17, 18, 19, 20, 21, 22, 23, 24, 25, 26, 27, 28, 29, 30, 31, 32, 33, 34, 35, 36, 37, 38, 39, 40, 41, 42, 43, 44, 45, 46, 47, 48, 49, 50, 51, 52, 53, 54, 55, 56, 57, 58, 59, 60, 61, 62, 63, 64, 65, 66, 67, 68, 69, 70, 71, 72, 73, 74, 75, 76, 77, 78, 79, 80, 81, 82, 83, 84, 140, 141, 142, 143, 144, 145, 146, 147, 148, 149, 150, 151, 152] (by decide +kernel) (by decide +kernel)
set_option maxRecDepth 20000 in
theorem gX2_yearlyPremium_X2_carryLife : GoodIn wsX2_yearlyPremium (wsV RX2 30 RX2 yX2_carryLife wsX2_carryLife) := goodIn_app (goodIn_of _ (by decide +kernel)) ggX2_yearlyPremium_X2_carryLife
set_option maxRecDepth 20000 in
theorem ggX2_yearlyPremium_X4_ratio_ : GoodIn wsX2_yearlyPremium wsX4_ratio_ := goodIn_ca (goodIn_r _ [94, 95, 96, 97, 98, 99, 38, 100, 47, 44, 101, 53, 54, 55, 45, 46, 56, 57, 58, 59, 60, 61, 62, 63, 64, 65, 66, 67, 68, 69, 70, 71, 72, 24, 73, 74, 75, 76, 77, 40, 41, 42, 43, 102, 103, 104, 105, 106, 107, 23, 25, 108, 109, 110, 111, 112, 113, 114, 115, 116, 117, 118, 119, 120, 121, 79, 80, 81, 82, 83, 84, 122, 123, 124, 93, 125, 126, 127, 128, 129, 130, 131, 132, 133, 134, 135, 136, 137, 138, 139, 150, 151, 152, 153] (by decide +kernel) (by decide +kernel)) (goodIn_sub (fun _ h => List.mem_cons_of_mem _ (List.mem_append_right _ h)) (by decide +kernel))
set_option maxRecDepth 20000 in
theorem gX2_yearlyPremium_X4_ratio_ : GoodIn wsX2_yearlyPremium (wsV RX2 51 RX4 yX4_ratio_ wsX4_ratio_) := goodIn_app (goodIn_of _ (by decide +kernel)) ggX2_yearlyPremium_X4_ratio_
set_option maxRecDepth 20000 in
theorem ggX2_yearlyPremium_X8_times : GoodIn wsX2_yearlyPremium wsX8_times := goodIn_r _ [55, 44, 45, 46, 47, 56, 57, 58, 38, 59, 60, 61, 62, 63, 64, 65, 66, 67, 68, 69, 70, 71, 72, 24, 73, 74, 75, 76, 77, 40, 41, 42, 43, 150, 151, 152] (by decide +kernel) (by decide +kernel)
set_option maxRecDepth 20000 in
theorem gX2_yearlyPremium_X8_times : GoodIn wsX2_yearlyPremium (wsV RX2 38 RX8 yX8_times wsX8_times) := goodIn_app (goodIn_of _ (by decide +kernel)) ggX2_yearlyPremium_X8_times
