-- printed rows that the walks use
theorem dX4_init_0 : decode cX4_init 0 = .ok (.aload_n 0, 1) := by decide +kernel
theorem dX4_init_1 : decode cX4_init 1 = .ok (.invokespecial 3, 3) := by decide +kernel
theorem dX4_init_10 : decode cX4_init 10 = .ok (.return_, 1) := by decide +kernel
theorem dX4_init_4 : decode cX4_init 4 = .ok (.aload_n 0, 1) := by decide +kernel
theorem dX4_init_5 : decode cX4_init 5 = .ok (.bipush 6, 2) := by decide +kernel
theorem dX4_init_7 : decode cX4_init 7 = .ok (.putfield 9, 3) := by decide +kernel
theorem dX4_isAway_0 : decode cX4_isAway 0 = .ok (.aload_n 0, 1) := by decide +kernel
theorem dX4_isAway_1 : decode cX4_isAway 1 = .ok (.getfield 9, 3) := by decide +kernel
theorem dX4_isAway_100 : decode cX4_isAway 100 = .ok (.lrem, 1) := by decide +kernel
theorem dX4_isAway_101 : decode cX4_isAway 101 = .ok (.lconst 0, 1) := by decide +kernel
theorem dX4_isAway_102 : decode cX4_isAway 102 = .ok (.lcmp, 1) := by decide +kernel
theorem dX4_isAway_103 : decode cX4_isAway 103 = .ok (.ifCond .eq 7, 3) := by decide +kernel
theorem dX4_isAway_106 : decode cX4_isAway 106 = .ok (.iconst 1, 1) := by decide +kernel
theorem dX4_isAway_107 : decode cX4_isAway 107 = .ok (.goto 4, 3) := by decide +kernel
theorem dX4_isAway_110 : decode cX4_isAway 110 = .ok (.iconst 0, 1) := by decide +kernel
theorem dX4_isAway_111 : decode cX4_isAway 111 = .ok (.ireturn, 1) := by decide +kernel
theorem dX4_isAway_4 : decode cX4_isAway 4 = .ok (.tableswitch 80 0 5 #[40, 42, 44, 54, 56, 68], 40) := by decide +kernel
theorem dX4_isAway_44 : decode cX4_isAway 44 = .ok (.iconst 1, 1) := by decide +kernel
theorem dX4_isAway_45 : decode cX4_isAway 45 = .ok (.ireturn, 1) := by decide +kernel
theorem dX4_isAway_46 : decode cX4_isAway 46 = .ok (.iconst 0, 1) := by decide +kernel
theorem dX4_isAway_47 : decode cX4_isAway 47 = .ok (.ireturn, 1) := by decide +kernel
theorem dX4_isAway_48 : decode cX4_isAway 48 = .ok (.iload_n 1, 1) := by decide +kernel
theorem dX4_isAway_49 : decode cX4_isAway 49 = .ok (.ifCond .ne 7, 3) := by decide +kernel
theorem dX4_isAway_52 : decode cX4_isAway 52 = .ok (.iconst 1, 1) := by decide +kernel
theorem dX4_isAway_53 : decode cX4_isAway 53 = .ok (.goto 4, 3) := by decide +kernel
theorem dX4_isAway_56 : decode cX4_isAway 56 = .ok (.iconst 0, 1) := by decide +kernel
theorem dX4_isAway_57 : decode cX4_isAway 57 = .ok (.ireturn, 1) := by decide +kernel
theorem dX4_isAway_58 : decode cX4_isAway 58 = .ok (.iload_n 1, 1) := by decide +kernel
theorem dX4_isAway_59 : decode cX4_isAway 59 = .ok (.ireturn, 1) := by decide +kernel
theorem dX4_isAway_60 : decode cX4_isAway 60 = .ok (.iload 4, 2) := by decide +kernel
theorem dX4_isAway_62 : decode cX4_isAway 62 = .ok (.iconst 2, 1) := by decide +kernel
theorem dX4_isAway_63 : decode cX4_isAway 63 = .ok (.if_icmp .lt 7, 3) := by decide +kernel
theorem dX4_isAway_66 : decode cX4_isAway 66 = .ok (.iconst 1, 1) := by decide +kernel
theorem dX4_isAway_67 : decode cX4_isAway 67 = .ok (.goto 4, 3) := by decide +kernel
theorem dX4_isAway_70 : decode cX4_isAway 70 = .ok (.iconst 0, 1) := by decide +kernel
theorem dX4_isAway_71 : decode cX4_isAway 71 = .ok (.ireturn, 1) := by decide +kernel
theorem dX4_isAway_72 : decode cX4_isAway 72 = .ok (.iload 4, 2) := by decide +kernel
theorem dX4_isAway_74 : decode cX4_isAway 74 = .ok (.iconst 2, 1) := by decide +kernel
theorem dX4_isAway_75 : decode cX4_isAway 75 = .ok (.if_icmp .le 7, 3) := by decide +kernel
theorem dX4_isAway_78 : decode cX4_isAway 78 = .ok (.iconst 1, 1) := by decide +kernel
theorem dX4_isAway_79 : decode cX4_isAway 79 = .ok (.goto 4, 3) := by decide +kernel
theorem dX4_isAway_82 : decode cX4_isAway 82 = .ok (.iconst 0, 1) := by decide +kernel
theorem dX4_isAway_83 : decode cX4_isAway 83 = .ok (.ireturn, 1) := by decide +kernel
theorem dX4_isAway_84 : decode cX4_isAway 84 = .ok (.iload 4, 2) := by decide +kernel
theorem dX4_isAway_86 : decode cX4_isAway 86 = .ok (.iconst 2, 1) := by decide +kernel
theorem dX4_isAway_87 : decode cX4_isAway 87 = .ok (.if_icmp .gt 19, 3) := by decide +kernel
theorem dX4_isAway_90 : decode cX4_isAway 90 = .ok (.iload 4, 2) := by decide +kernel
theorem dX4_isAway_92 : decode cX4_isAway 92 = .ok (.iconst 2, 1) := by decide +kernel
theorem dX4_isAway_93 : decode cX4_isAway 93 = .ok (.if_icmp .ne 17, 3) := by decide +kernel
theorem dX4_isAway_96 : decode cX4_isAway 96 = .ok (.lload_n 2, 1) := by decide +kernel
theorem dX4_isAway_97 : decode cX4_isAway 97 = .ok (.ldc2_w 45, 3) := by decide +kernel
theorem dX4_kindOf_0 : decode cX4_kindOf 0 = .ok (.iload_n 0, 1) := by decide +kernel
theorem dX4_kindOf_1 : decode cX4_kindOf 1 = .ok (.ifCond .ne 5, 3) := by decide +kernel
theorem dX4_kindOf_10 : decode cX4_kindOf 10 = .ok (.iconst 2, 1) := by decide +kernel
theorem dX4_kindOf_11 : decode cX4_kindOf 11 = .ok (.goto 4, 3) := by decide +kernel
theorem dX4_kindOf_14 : decode cX4_kindOf 14 = .ok (.iconst 3, 1) := by decide +kernel
theorem dX4_kindOf_15 : decode cX4_kindOf 15 = .ok (.ireturn, 1) := by decide +kernel
theorem dX4_kindOf_4 : decode cX4_kindOf 4 = .ok (.iconst 1, 1) := by decide +kernel
theorem dX4_kindOf_5 : decode cX4_kindOf 5 = .ok (.ireturn, 1) := by decide +kernel
theorem dX4_kindOf_6 : decode cX4_kindOf 6 = .ok (.iload_n 1, 1) := by decide +kernel
theorem dX4_kindOf_7 : decode cX4_kindOf 7 = .ok (.ifCond .eq 7, 3) := by decide +kernel
theorem dX4_ratio_0 : decode cX4_ratio 0 = .ok (.lload_n 3, 1) := by decide +kernel
theorem dX4_ratio_1 : decode cX4_ratio 1 = .ok (.lconst 0, 1) := by decide +kernel
theorem dX4_ratio_12 : decode cX4_ratio 12 = .ok (.lstore 5, 2) := by decide +kernel
theorem dX4_ratio_14 : decode cX4_ratio 14 = .ok (.lload 5, 2) := by decide +kernel
theorem dX4_ratio_16 : decode cX4_ratio 16 = .ok (.lload_n 3, 1) := by decide +kernel
theorem dX4_ratio_17 : decode cX4_ratio 17 = .ok (.lrem, 1) := by decide +kernel
theorem dX4_ratio_18 : decode cX4_ratio 18 = .ok (.lstore 7, 2) := by decide +kernel
theorem dX4_ratio_2 : decode cX4_ratio 2 = .ok (.lcmp, 1) := by decide +kernel
theorem dX4_ratio_20 : decode cX4_ratio 20 = .ok (.iconst 0, 1) := by decide +kernel
theorem dX4_ratio_21 : decode cX4_ratio 21 = .ok (.istore 9, 2) := by decide +kernel
theorem dX4_ratio_23 : decode cX4_ratio 23 = .ok (.lload 7, 2) := by decide +kernel
theorem dX4_ratio_25 : decode cX4_ratio 25 = .ok (.lconst 0, 1) := by decide +kernel
theorem dX4_ratio_26 : decode cX4_ratio 26 = .ok (.lcmp, 1) := by decide +kernel
theorem dX4_ratio_27 : decode cX4_ratio 27 = .ok (.ifCond .le 38, 3) := by decide +kernel
theorem dX4_ratio_3 : decode cX4_ratio 3 = .ok (.ifCond .gt 5, 3) := by decide +kernel
theorem dX4_ratio_30 : decode cX4_ratio 30 = .ok (.lload 7, 2) := by decide +kernel
theorem dX4_ratio_32 : decode cX4_ratio 32 = .ok (.lload_n 3, 1) := by decide +kernel
theorem dX4_ratio_33 : decode cX4_ratio 33 = .ok (.lload 7, 2) := by decide +kernel
theorem dX4_ratio_35 : decode cX4_ratio 35 = .ok (.lsub, 1) := by decide +kernel
theorem dX4_ratio_36 : decode cX4_ratio 36 = .ok (.lcmp, 1) := by decide +kernel
theorem dX4_ratio_37 : decode cX4_ratio 37 = .ok (.ifCond .lt 7, 3) := by decide +kernel
theorem dX4_ratio_40 : decode cX4_ratio 40 = .ok (.iconst 1, 1) := by decide +kernel
theorem dX4_ratio_41 : decode cX4_ratio 41 = .ok (.goto 4, 3) := by decide +kernel
theorem dX4_ratio_44 : decode cX4_ratio 44 = .ok (.iconst 0, 1) := by decide +kernel
theorem dX4_ratio_45 : decode cX4_ratio 45 = .ok (.lload 7, 2) := by decide +kernel
theorem dX4_ratio_47 : decode cX4_ratio 47 = .ok (.lload_n 3, 1) := by decide +kernel
theorem dX4_ratio_48 : decode cX4_ratio 48 = .ok (.lload 7, 2) := by decide +kernel
theorem dX4_ratio_50 : decode cX4_ratio 50 = .ok (.lsub, 1) := by decide +kernel
theorem dX4_ratio_51 : decode cX4_ratio 51 = .ok (.lcmp, 1) := by decide +kernel
theorem dX4_ratio_52 : decode cX4_ratio 52 = .ok (.ifCond .gt 7, 3) := by decide +kernel
theorem dX4_ratio_55 : decode cX4_ratio 55 = .ok (.iconst 1, 1) := by decide +kernel
theorem dX4_ratio_56 : decode cX4_ratio 56 = .ok (.goto 4, 3) := by decide +kernel
theorem dX4_ratio_59 : decode cX4_ratio 59 = .ok (.iconst 0, 1) := by decide +kernel
theorem dX4_ratio_60 : decode cX4_ratio 60 = .ok (.invokestatic 21, 3) := by decide +kernel
theorem dX4_ratio_63 : decode cX4_ratio 63 = .ok (.istore 9, 2) := by decide +kernel
theorem dX4_ratio_65 : decode cX4_ratio 65 = .ok (.aload_n 0, 1) := by decide +kernel
theorem dX4_ratio_66 : decode cX4_ratio 66 = .ok (.lload_n 1, 1) := by decide +kernel
theorem dX4_ratio_67 : decode cX4_ratio 67 = .ok (.lconst 0, 1) := by decide +kernel
theorem dX4_ratio_68 : decode cX4_ratio 68 = .ok (.lcmp, 1) := by decide +kernel
theorem dX4_ratio_69 : decode cX4_ratio 69 = .ok (.ifCond .ge 7, 3) := by decide +kernel
theorem dX4_ratio_72 : decode cX4_ratio 72 = .ok (.iconst 1, 1) := by decide +kernel
theorem dX4_ratio_73 : decode cX4_ratio 73 = .ok (.goto 4, 3) := by decide +kernel
theorem dX4_ratio_76 : decode cX4_ratio 76 = .ok (.iconst 0, 1) := by decide +kernel
theorem dX4_ratio_77 : decode cX4_ratio 77 = .ok (.lload 5, 2) := by decide +kernel
theorem dX4_ratio_79 : decode cX4_ratio 79 = .ok (.lload_n 3, 1) := by decide +kernel
theorem dX4_ratio_8 : decode cX4_ratio 8 = .ok (.lload_n 1, 1) := by decide +kernel
theorem dX4_ratio_80 : decode cX4_ratio 80 = .ok (.ldiv, 1) := by decide +kernel
theorem dX4_ratio_81 : decode cX4_ratio 81 = .ok (.iload 9, 2) := by decide +kernel
theorem dX4_ratio_83 : decode cX4_ratio 83 = .ok (.invokevirtual 25, 3) := by decide +kernel
theorem dX4_ratio_86 : decode cX4_ratio 86 = .ok (.lreturn, 1) := by decide +kernel
theorem dX4_ratio_9 : decode cX4_ratio 9 = .ok (.invokestatic 15, 3) := by decide +kernel
theorem dX4_ratio__0 : decode cX4_ratio_ 0 = .ok (.aload_n 1, 1) := by decide +kernel
theorem dX4_ratio__1 : decode cX4_ratio_ 1 = .ok (.invokevirtual 29, 3) := by decide +kernel
theorem dX4_ratio__11 : decode cX4_ratio_ 11 = .ok (.iconst 0, 1) := by decide +kernel
theorem dX4_ratio__12 : decode cX4_ratio_ 12 = .ok (.istore_n 3, 1) := by decide +kernel
theorem dX4_ratio__13 : decode cX4_ratio_ 13 = .ok (.iload_n 3, 1) := by decide +kernel
theorem dX4_ratio__14 : decode cX4_ratio_ 14 = .ok (.ifCond .eq 10, 3) := by decide +kernel
theorem dX4_ratio__17 : decode cX4_ratio_ 17 = .ok (.aload_n 1, 1) := by decide +kernel
theorem dX4_ratio__18 : decode cX4_ratio_ 18 = .ok (.ldc2_w 35, 3) := by decide +kernel
theorem dX4_ratio__21 : decode cX4_ratio_ 21 = .ok (.invokevirtual 37, 3) := by decide +kernel
theorem dX4_ratio__24 : decode cX4_ratio_ 24 = .ok (.aload_n 1, 1) := by decide +kernel
theorem dX4_ratio__25 : decode cX4_ratio_ 25 = .ok (.aload_n 2, 1) := by decide +kernel
theorem dX4_ratio__26 : decode cX4_ratio_ 26 = .ok (.invokevirtual 41, 3) := by decide +kernel
theorem dX4_ratio__29 : decode cX4_ratio_ 29 = .ok (.lstore 4, 2) := by decide +kernel
theorem dX4_ratio__31 : decode cX4_ratio_ 31 = .ok (.iconst 0, 1) := by decide +kernel
theorem dX4_ratio__32 : decode cX4_ratio_ 32 = .ok (.istore 6, 2) := by decide +kernel
theorem dX4_ratio__34 : decode cX4_ratio_ 34 = .ok (.aload_n 1, 1) := by decide +kernel
theorem dX4_ratio__35 : decode cX4_ratio_ 35 = .ok (.invokevirtual 29, 3) := by decide +kernel
theorem dX4_ratio__38 : decode cX4_ratio_ 38 = .ok (.ifCond .le 27, 3) := by decide +kernel
theorem dX4_ratio__4 : decode cX4_ratio_ 4 = .ok (.ifCond .ge 7, 3) := by decide +kernel
theorem dX4_ratio__41 : decode cX4_ratio_ 41 = .ok (.aload_n 1, 1) := by decide +kernel
theorem dX4_ratio__42 : decode cX4_ratio_ 42 = .ok (.ldc2_w 45, 3) := by decide +kernel
theorem dX4_ratio__45 : decode cX4_ratio_ 45 = .ok (.invokevirtual 37, 3) := by decide +kernel
theorem dX4_ratio__48 : decode cX4_ratio_ 48 = .ok (.aload_n 1, 1) := by decide +kernel
theorem dX4_ratio__49 : decode cX4_ratio_ 49 = .ok (.aload_n 2, 1) := by decide +kernel
theorem dX4_ratio__50 : decode cX4_ratio_ 50 = .ok (.iconst 0, 1) := by decide +kernel
theorem dX4_ratio__51 : decode cX4_ratio_ 51 = .ok (.invokevirtual 47, 3) := by decide +kernel
theorem dX4_ratio__54 : decode cX4_ratio_ 54 = .ok (.aload_n 2, 1) := by decide +kernel
theorem dX4_ratio__55 : decode cX4_ratio_ 55 = .ok (.aload_n 1, 1) := by decide +kernel
theorem dX4_ratio__56 : decode cX4_ratio_ 56 = .ok (.iconst 0, 1) := by decide +kernel
theorem dX4_ratio__57 : decode cX4_ratio_ 57 = .ok (.invokevirtual 47, 3) := by decide +kernel
theorem dX4_ratio__60 : decode cX4_ratio_ 60 = .ok (.invokestatic 21, 3) := by decide +kernel
theorem dX4_ratio__63 : decode cX4_ratio_ 63 = .ok (.istore 6, 2) := by decide +kernel
theorem dX4_ratio__65 : decode cX4_ratio_ 65 = .ok (.aload_n 0, 1) := by decide +kernel
theorem dX4_ratio__66 : decode cX4_ratio_ 66 = .ok (.iload_n 3, 1) := by decide +kernel
theorem dX4_ratio__67 : decode cX4_ratio_ 67 = .ok (.lload 4, 2) := by decide +kernel
theorem dX4_ratio__69 : decode cX4_ratio_ 69 = .ok (.iload 6, 2) := by decide +kernel
theorem dX4_ratio__7 : decode cX4_ratio_ 7 = .ok (.iconst 1, 1) := by decide +kernel
theorem dX4_ratio__71 : decode cX4_ratio_ 71 = .ok (.invokevirtual 25, 3) := by decide +kernel
theorem dX4_ratio__74 : decode cX4_ratio_ 74 = .ok (.lreturn, 1) := by decide +kernel
theorem dX4_ratio__8 : decode cX4_ratio_ 8 = .ok (.goto 4, 3) := by decide +kernel
theorem dX4_rounded_0 : decode cX4_rounded 0 = .ok (.lload_n 2, 1) := by decide +kernel
theorem dX4_rounded_1 : decode cX4_rounded 1 = .ok (.lstore 5, 2) := by decide +kernel
theorem dX4_rounded_12 : decode cX4_rounded 12 = .ok (.bipush 7, 2) := by decide +kernel
theorem dX4_rounded_14 : decode cX4_rounded 14 = .ok (.if_icmp .eq 7, 3) := by decide +kernel
theorem dX4_rounded_17 : decode cX4_rounded 17 = .ok (.iconst 1, 1) := by decide +kernel
theorem dX4_rounded_18 : decode cX4_rounded 18 = .ok (.goto 4, 3) := by decide +kernel
theorem dX4_rounded_21 : decode cX4_rounded 21 = .ok (.iconst 0, 1) := by decide +kernel
theorem dX4_rounded_22 : decode cX4_rounded 22 = .ok (.invokestatic 51, 3) := by decide +kernel
theorem dX4_rounded_25 : decode cX4_rounded 25 = .ok (.lload 5, 2) := by decide +kernel
theorem dX4_rounded_27 : decode cX4_rounded 27 = .ok (.aload_n 0, 1) := by decide +kernel
theorem dX4_rounded_28 : decode cX4_rounded 28 = .ok (.iload_n 1, 1) := by decide +kernel
theorem dX4_rounded_29 : decode cX4_rounded 29 = .ok (.lload_n 2, 1) := by decide +kernel
theorem dX4_rounded_3 : decode cX4_rounded 3 = .ok (.iload 4, 2) := by decide +kernel
theorem dX4_rounded_30 : decode cX4_rounded 30 = .ok (.iload 4, 2) := by decide +kernel
theorem dX4_rounded_32 : decode cX4_rounded 32 = .ok (.invokevirtual 55, 3) := by decide +kernel
theorem dX4_rounded_35 : decode cX4_rounded 35 = .ok (.ifCond .eq 7, 3) := by decide +kernel
theorem dX4_rounded_38 : decode cX4_rounded 38 = .ok (.lconst 1, 1) := by decide +kernel
theorem dX4_rounded_39 : decode cX4_rounded 39 = .ok (.goto 4, 3) := by decide +kernel
theorem dX4_rounded_42 : decode cX4_rounded 42 = .ok (.lconst 0, 1) := by decide +kernel
theorem dX4_rounded_43 : decode cX4_rounded 43 = .ok (.ladd, 1) := by decide +kernel
theorem dX4_rounded_44 : decode cX4_rounded 44 = .ok (.lstore 5, 2) := by decide +kernel
theorem dX4_rounded_46 : decode cX4_rounded 46 = .ok (.iload_n 1, 1) := by decide +kernel
theorem dX4_rounded_47 : decode cX4_rounded 47 = .ok (.ifCond .eq 9, 3) := by decide +kernel
theorem dX4_rounded_5 : decode cX4_rounded 5 = .ok (.ifCond .eq 41, 3) := by decide +kernel
theorem dX4_rounded_50 : decode cX4_rounded 50 = .ok (.lload 5, 2) := by decide +kernel
theorem dX4_rounded_52 : decode cX4_rounded 52 = .ok (.lneg, 1) := by decide +kernel
theorem dX4_rounded_53 : decode cX4_rounded 53 = .ok (.goto 5, 3) := by decide +kernel
theorem dX4_rounded_56 : decode cX4_rounded 56 = .ok (.lload 5, 2) := by decide +kernel
theorem dX4_rounded_58 : decode cX4_rounded 58 = .ok (.lreturn, 1) := by decide +kernel
theorem dX4_rounded_8 : decode cX4_rounded 8 = .ok (.aload_n 0, 1) := by decide +kernel
theorem dX4_rounded_9 : decode cX4_rounded 9 = .ok (.getfield 9, 3) := by decide +kernel
theorem dX9_demandElement_0 : decode cX9_demandElement 0 = .ok (.iload_n 0, 1) := by decide +kernel
theorem dX9_demandElement_1 : decode cX9_demandElement 1 = .ok (.ifCond .ne 14, 3) := by decide +kernel
theorem dX9_demandElement_11 : decode cX9_demandElement 11 = .ok (.invokespecial 297, 3) := by decide +kernel
theorem dX9_demandElement_14 : decode cX9_demandElement 14 = .ok (.athrow, 1) := by decide +kernel
theorem dX9_demandElement_15 : decode cX9_demandElement 15 = .ok (.return_, 1) := by decide +kernel
theorem dX9_demandElement_4 : decode cX9_demandElement 4 = .ok (.new 293, 3) := by decide +kernel
theorem dX9_demandElement_7 : decode cX9_demandElement 7 = .ok (.dup, 1) := by decide +kernel
theorem dX9_demandElement_8 : decode cX9_demandElement 8 = .ok (.ldc_w 295, 3) := by decide +kernel
theorem dX9_demandState_0 : decode cX9_demandState 0 = .ok (.iload_n 0, 1) := by decide +kernel
theorem dX9_demandState_1 : decode cX9_demandState 1 = .ok (.ifCond .ne 14, 3) := by decide +kernel
theorem dX9_demandState_11 : decode cX9_demandState 11 = .ok (.invokespecial 292, 3) := by decide +kernel
theorem dX9_demandState_14 : decode cX9_demandState 14 = .ok (.athrow, 1) := by decide +kernel
theorem dX9_demandState_15 : decode cX9_demandState 15 = .ok (.return_, 1) := by decide +kernel
theorem dX9_demandState_4 : decode cX9_demandState 4 = .ok (.new 288, 3) := by decide +kernel
theorem dX9_demandState_7 : decode cX9_demandState 7 = .ok (.dup, 1) := by decide +kernel
theorem dX9_demandState_8 : decode cX9_demandState 8 = .ok (.ldc_w 290, 3) := by decide +kernel
theorem dX9_demand_0 : decode cX9_demand 0 = .ok (.iload_n 0, 1) := by decide +kernel
theorem dX9_demand_1 : decode cX9_demand 1 = .ok (.ifCond .ne 14, 3) := by decide +kernel
theorem dX9_demand_11 : decode cX9_demand 11 = .ok (.invokespecial 285, 3) := by decide +kernel
theorem dX9_demand_14 : decode cX9_demand 14 = .ok (.athrow, 1) := by decide +kernel
theorem dX9_demand_15 : decode cX9_demand 15 = .ok (.return_, 1) := by decide +kernel
theorem dX9_demand_4 : decode cX9_demand 4 = .ok (.new 281, 3) := by decide +kernel
theorem dX9_demand_7 : decode cX9_demand 7 = .ok (.dup, 1) := by decide +kernel
theorem dX9_demand_8 : decode cX9_demand 8 = .ok (.ldc_w 283, 3) := by decide +kernel
theorem dX9_isWithin_0 : decode cX9_isWithin 0 = .ok (.lload_n 2, 1) := by decide +kernel
theorem dX9_isWithin_1 : decode cX9_isWithin 1 = .ok (.lload_n 0, 1) := by decide +kernel
theorem dX9_isWithin_10 : decode cX9_isWithin 10 = .ok (.ifCond .gt 7, 3) := by decide +kernel
theorem dX9_isWithin_13 : decode cX9_isWithin 13 = .ok (.iconst 1, 1) := by decide +kernel
theorem dX9_isWithin_14 : decode cX9_isWithin 14 = .ok (.goto 4, 3) := by decide +kernel
theorem dX9_isWithin_17 : decode cX9_isWithin 17 = .ok (.iconst 0, 1) := by decide +kernel
theorem dX9_isWithin_18 : decode cX9_isWithin 18 = .ok (.ireturn, 1) := by decide +kernel
theorem dX9_isWithin_2 : decode cX9_isWithin 2 = .ok (.lcmp, 1) := by decide +kernel
theorem dX9_isWithin_3 : decode cX9_isWithin 3 = .ok (.ifCond .gt 14, 3) := by decide +kernel
theorem dX9_isWithin_6 : decode cX9_isWithin 6 = .ok (.lload_n 0, 1) := by decide +kernel
theorem dX9_isWithin_7 : decode cX9_isWithin 7 = .ok (.lload 4, 2) := by decide +kernel
theorem dX9_isWithin_9 : decode cX9_isWithin 9 = .ok (.lcmp, 1) := by decide +kernel
set_option maxRecDepth 20000 in
theorem ggX4_ratio_X4_kindOf : GoodIn wsX4_ratio wsX4_kindOf := goodIn_r _ [8] (by decide +kernel) (by decide +kernel)
set_option maxRecDepth 20000 in
theorem gX4_ratio_X4_kindOf : GoodIn wsX4_ratio (va_wsS RX4 21 yX4_kindOf wsX4_kindOf) := goodIn_app (goodIn_of _ (by decide +kernel)) ggX4_ratio_X4_kindOf
set_option maxRecDepth 20000 in
theorem ggX4_ratio_X4_rounded : GoodIn wsX4_ratio wsX4_rounded := goodIn_ca (goodIn_r _ [12, 13, 14, 15, 16, 17, 18, 19, 20, 21, 7, 22, 23, 24] (by decide +kernel) (by decide +kernel)) (goodIn_sub (fun _ h => List.mem_cons_of_mem _ (List.mem_append_right _ h)) (by decide +kernel))
set_option maxRecDepth 20000 in
theorem gX4_ratio_X4_rounded : GoodIn wsX4_ratio (wsV RX4 25 RX4 yX4_rounded wsX4_rounded) := goodIn_app (goodIn_of _ (by decide +kernel)) ggX4_ratio_X4_rounded
set_option maxRecDepth 20000 in
theorem ggX4_ratio__X4_kindOf : GoodIn wsX4_ratio_ wsX4_kindOf := goodIn_r _ [75] (by decide +kernel) (by decide +kernel)
set_option maxRecDepth 20000 in
theorem gX4_ratio__X4_kindOf : GoodIn wsX4_ratio_ (va_wsS RX4 21 yX4_kindOf wsX4_kindOf) := goodIn_app (goodIn_of _ (by decide +kernel)) ggX4_ratio__X4_kindOf
set_option maxRecDepth 20000 in
theorem ggX4_ratio__X4_rounded : GoodIn wsX4_ratio_ wsX4_rounded := goodIn_ca (goodIn_r _ [79, 80, 81, 82, 83, 84, 85, 86, 87, 88, 74, 89, 2, 93] (by decide +kernel) (by decide +kernel)) (goodIn_sub (fun _ h => List.mem_cons_of_mem _ (List.mem_append_right _ h)) (by decide +kernel))
set_option maxRecDepth 20000 in
theorem gX4_ratio__X4_rounded : GoodIn wsX4_ratio_ (wsV RX4 25 RX4 yX4_rounded wsX4_rounded) := goodIn_app (goodIn_of _ (by decide +kernel)) ggX4_ratio__X4_rounded
set_option maxRecDepth 20000 in
theorem ggX4_ratio__X8_divide : GoodIn wsX4_ratio_ wsX8_divide := goodIn_r _ [46, 9, 47, 48, 49, 33, 50, 51, 52, 53, 6, 54, 14, 8, 15, 55, 56, 57, 58, 59, 11, 12, 13, 16, 17, 18, 19, 20, 21, 22, 23, 24, 25, 26, 27, 28, 29, 30, 31, 32, 34, 35, 36, 37, 38, 39, 40, 41, 42, 60, 61, 62, 63, 64, 65, 66, 67, 68, 69, 70, 90, 91, 92] (by decide +kernel) (by decide +kernel)
set_option maxRecDepth 20000 in
theorem gX4_ratio__X8_divide : GoodIn wsX4_ratio_ (wsV RX4 41 RX8 yX8_divide wsX8_divide) := goodIn_app (goodIn_of _ (by decide +kernel)) ggX4_ratio__X8_divide
set_option maxRecDepth 20000 in
theorem ggX4_ratio__X8_isAtLeast : GoodIn wsX4_ratio_ wsX8_isAtLeast := goodIn_r _ [63, 9, 51, 52, 53, 6, 54, 14, 8, 15, 90, 91, 92] (by decide +kernel) (by decide +kernel)
set_option maxRecDepth 20000 in
theorem gX4_ratio__X8_isAtLeast : GoodIn wsX4_ratio_ (wsV RX4 47 RX8 yX8_isAtLeast wsX8_isAtLeast) := goodIn_app (goodIn_of _ (by decide +kernel)) ggX4_ratio__X8_isAtLeast
set_option maxRecDepth 20000 in
theorem ggX4_ratio__X8_sign : GoodIn wsX4_ratio_ wsX8_sign := goodIn_r _ [7, 8, 9, 90, 91, 92] (by decide +kernel) (by decide +kernel)
set_option maxRecDepth 20000 in
theorem gX4_ratio__X8_sign : GoodIn wsX4_ratio_ (wsV RX4 29 RX8 yX8_sign wsX8_sign) := goodIn_app (goodIn_of _ (by decide +kernel)) ggX4_ratio__X8_sign
set_option maxRecDepth 20000 in
theorem ggX4_ratio__X8_times : GoodIn wsX4_ratio_ wsX8_times := goodIn_r _ [13, 9, 14, 15, 8, 16, 17, 18, 6, 19, 20, 21, 22, 23, 24, 25, 26, 27, 28, 29, 30, 31, 32, 33, 34, 35, 36, 37, 38, 39, 40, 41, 42, 90, 91, 92] (by decide +kernel) (by decide +kernel)
set_option maxRecDepth 20000 in
theorem gX4_ratio__X8_times : GoodIn wsX4_ratio_ (wsV RX4 37 RX8 yX8_times wsX8_times) := goodIn_app (goodIn_of _ (by decide +kernel)) ggX4_ratio__X8_times
set_option maxRecDepth 20000 in
theorem ggX4_rounded_X4_isAway : GoodIn wsX4_rounded wsX4_isAway := goodIn_r _ [11, 1, 12, 13] (by decide +kernel) (by decide +kernel)
set_option maxRecDepth 20000 in
theorem gX4_rounded_X4_isAway : GoodIn wsX4_rounded (wsV RX4 55 RX4 yX4_isAway wsX4_isAway) := goodIn_app (goodIn_of _ (by decide +kernel)) ggX4_rounded_X4_isAway
set_option maxRecDepth 20000 in
theorem ggX4_rounded_X9_demandState : GoodIn wsX4_rounded wsX9_demandState := goodIn_ca (goodIn_r _ [4, 5, 6] (by decide +kernel) (by decide +kernel)) (goodIn_sub (fun _ h => List.mem_cons_of_mem _ (List.mem_append_right _ h)) (by decide +kernel))
set_option maxRecDepth 20000 in
theorem gX4_rounded_X9_demandState_n51 : GoodIn wsX4_rounded (wsX9_demandState) := ggX4_rounded_X9_demandState
