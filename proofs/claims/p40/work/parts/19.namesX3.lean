-- printed rows that the walks use
theorem dX3_begin_0 : decode cX3_begin 0 = .ok (.aload_n 0, 1) := by decide +kernel
theorem dX3_begin_1 : decode cX3_begin 1 = .ok (.lload_n 1, 1) := by decide +kernel
theorem dX3_begin_11 : decode cX3_begin 11 = .ok (.iconst 1, 1) := by decide +kernel
theorem dX3_begin_12 : decode cX3_begin 12 = .ok (.istore 5, 2) := by decide +kernel
theorem dX3_begin_14 : decode cX3_begin 14 = .ok (.iload 5, 2) := by decide +kernel
theorem dX3_begin_16 : decode cX3_begin 16 = .ok (.bipush 60, 2) := by decide +kernel
theorem dX3_begin_18 : decode cX3_begin 18 = .ok (.if_icmp .gt 43, 3) := by decide +kernel
theorem dX3_begin_2 : decode cX3_begin 2 = .ok (.putfield 35, 3) := by decide +kernel
theorem dX3_begin_21 : decode cX3_begin 21 = .ok (.aload_n 0, 1) := by decide +kernel
theorem dX3_begin_22 : decode cX3_begin 22 = .ok (.getfield 9, 3) := by decide +kernel
theorem dX3_begin_25 : decode cX3_begin 25 = .ok (.iload 5, 2) := by decide +kernel
theorem dX3_begin_27 : decode cX3_begin 27 = .ok (.iload 5, 2) := by decide +kernel
theorem dX3_begin_29 : decode cX3_begin 29 = .ok (.iconst 1, 1) := by decide +kernel
theorem dX3_begin_30 : decode cX3_begin 30 = .ok (.if_icmp .ne 7, 3) := by decide +kernel
theorem dX3_begin_33 : decode cX3_begin 33 = .ok (.iload_n 3, 1) := by decide +kernel
theorem dX3_begin_34 : decode cX3_begin 34 = .ok (.goto 4, 3) := by decide +kernel
theorem dX3_begin_37 : decode cX3_begin 37 = .ok (.iconst (-1), 1) := by decide +kernel
theorem dX3_begin_38 : decode cX3_begin 38 = .ok (.iastore, 1) := by decide +kernel
theorem dX3_begin_39 : decode cX3_begin 39 = .ok (.aload_n 0, 1) := by decide +kernel
theorem dX3_begin_40 : decode cX3_begin 40 = .ok (.getfield 15, 3) := by decide +kernel
theorem dX3_begin_43 : decode cX3_begin 43 = .ok (.iload 5, 2) := by decide +kernel
theorem dX3_begin_45 : decode cX3_begin 45 = .ok (.lconst 0, 1) := by decide +kernel
theorem dX3_begin_46 : decode cX3_begin 46 = .ok (.lastore, 1) := by decide +kernel
theorem dX3_begin_47 : decode cX3_begin 47 = .ok (.aload_n 0, 1) := by decide +kernel
theorem dX3_begin_48 : decode cX3_begin 48 = .ok (.getfield 19, 3) := by decide +kernel
theorem dX3_begin_5 : decode cX3_begin 5 = .ok (.aload_n 0, 1) := by decide +kernel
theorem dX3_begin_51 : decode cX3_begin 51 = .ok (.iload 5, 2) := by decide +kernel
theorem dX3_begin_53 : decode cX3_begin 53 = .ok (.iconst 0, 1) := by decide +kernel
theorem dX3_begin_54 : decode cX3_begin 54 = .ok (.bastore, 1) := by decide +kernel
theorem dX3_begin_55 : decode cX3_begin 55 = .ok (.iinc 5 1, 3) := by decide +kernel
theorem dX3_begin_58 : decode cX3_begin 58 = .ok (.goto (-44), 3) := by decide +kernel
theorem dX3_begin_6 : decode cX3_begin 6 = .ok (.iload 4, 2) := by decide +kernel
theorem dX3_begin_61 : decode cX3_begin 61 = .ok (.return_, 1) := by decide +kernel
theorem dX3_begin_8 : decode cX3_begin 8 = .ok (.putfield 39, 3) := by decide +kernel
theorem dX3_cell_0 : decode cX3_cell 0 = .ok (.aload_n 0, 1) := by decide +kernel
theorem dX3_cell_1 : decode cX3_cell 1 = .ok (.getfield 25, 3) := by decide +kernel
theorem dX3_cell_4 : decode cX3_cell 4 = .ok (.iload_n 2, 1) := by decide +kernel
theorem dX3_cell_5 : decode cX3_cell 5 = .ok (.aaload, 1) := by decide +kernel
theorem dX3_cell_6 : decode cX3_cell 6 = .ok (.iload_n 1, 1) := by decide +kernel
theorem dX3_cell_7 : decode cX3_cell 7 = .ok (.laload, 1) := by decide +kernel
theorem dX3_cell_8 : decode cX3_cell 8 = .ok (.lreturn, 1) := by decide +kernel
theorem dX3_copyTerms_0 : decode cX3_copyTerms 0 = .ok (.aload_n 0, 1) := by decide +kernel
theorem dX3_copyTerms_1 : decode cX3_copyTerms 1 = .ok (.aload_n 1, 1) := by decide +kernel
theorem dX3_copyTerms_10 : decode cX3_copyTerms 10 = .ok (.getfield 39, 3) := by decide +kernel
theorem dX3_copyTerms_13 : decode cX3_copyTerms 13 = .ok (.putfield 39, 3) := by decide +kernel
theorem dX3_copyTerms_16 : decode cX3_copyTerms 16 = .ok (.iconst 1, 1) := by decide +kernel
theorem dX3_copyTerms_17 : decode cX3_copyTerms 17 = .ok (.istore_n 2, 1) := by decide +kernel
theorem dX3_copyTerms_18 : decode cX3_copyTerms 18 = .ok (.iload_n 2, 1) := by decide +kernel
theorem dX3_copyTerms_19 : decode cX3_copyTerms 19 = .ok (.bipush 60, 2) := by decide +kernel
theorem dX3_copyTerms_2 : decode cX3_copyTerms 2 = .ok (.getfield 35, 3) := by decide +kernel
theorem dX3_copyTerms_21 : decode cX3_copyTerms 21 = .ok (.if_icmp .gt 45, 3) := by decide +kernel
theorem dX3_copyTerms_24 : decode cX3_copyTerms 24 = .ok (.aload_n 0, 1) := by decide +kernel
theorem dX3_copyTerms_25 : decode cX3_copyTerms 25 = .ok (.getfield 9, 3) := by decide +kernel
theorem dX3_copyTerms_28 : decode cX3_copyTerms 28 = .ok (.iload_n 2, 1) := by decide +kernel
theorem dX3_copyTerms_29 : decode cX3_copyTerms 29 = .ok (.aload_n 1, 1) := by decide +kernel
theorem dX3_copyTerms_30 : decode cX3_copyTerms 30 = .ok (.getfield 9, 3) := by decide +kernel
theorem dX3_copyTerms_33 : decode cX3_copyTerms 33 = .ok (.iload_n 2, 1) := by decide +kernel
theorem dX3_copyTerms_34 : decode cX3_copyTerms 34 = .ok (.iaload, 1) := by decide +kernel
theorem dX3_copyTerms_35 : decode cX3_copyTerms 35 = .ok (.iastore, 1) := by decide +kernel
theorem dX3_copyTerms_36 : decode cX3_copyTerms 36 = .ok (.aload_n 0, 1) := by decide +kernel
theorem dX3_copyTerms_37 : decode cX3_copyTerms 37 = .ok (.getfield 15, 3) := by decide +kernel
theorem dX3_copyTerms_40 : decode cX3_copyTerms 40 = .ok (.iload_n 2, 1) := by decide +kernel
theorem dX3_copyTerms_41 : decode cX3_copyTerms 41 = .ok (.aload_n 1, 1) := by decide +kernel
theorem dX3_copyTerms_42 : decode cX3_copyTerms 42 = .ok (.getfield 15, 3) := by decide +kernel
theorem dX3_copyTerms_45 : decode cX3_copyTerms 45 = .ok (.iload_n 2, 1) := by decide +kernel
theorem dX3_copyTerms_46 : decode cX3_copyTerms 46 = .ok (.laload, 1) := by decide +kernel
theorem dX3_copyTerms_47 : decode cX3_copyTerms 47 = .ok (.lastore, 1) := by decide +kernel
theorem dX3_copyTerms_48 : decode cX3_copyTerms 48 = .ok (.aload_n 0, 1) := by decide +kernel
theorem dX3_copyTerms_49 : decode cX3_copyTerms 49 = .ok (.getfield 19, 3) := by decide +kernel
theorem dX3_copyTerms_5 : decode cX3_copyTerms 5 = .ok (.putfield 35, 3) := by decide +kernel
theorem dX3_copyTerms_52 : decode cX3_copyTerms 52 = .ok (.iload_n 2, 1) := by decide +kernel
theorem dX3_copyTerms_53 : decode cX3_copyTerms 53 = .ok (.aload_n 1, 1) := by decide +kernel
theorem dX3_copyTerms_54 : decode cX3_copyTerms 54 = .ok (.getfield 19, 3) := by decide +kernel
theorem dX3_copyTerms_57 : decode cX3_copyTerms 57 = .ok (.iload_n 2, 1) := by decide +kernel
theorem dX3_copyTerms_58 : decode cX3_copyTerms 58 = .ok (.baload, 1) := by decide +kernel
theorem dX3_copyTerms_59 : decode cX3_copyTerms 59 = .ok (.bastore, 1) := by decide +kernel
theorem dX3_copyTerms_60 : decode cX3_copyTerms 60 = .ok (.iinc 2 1, 3) := by decide +kernel
theorem dX3_copyTerms_63 : decode cX3_copyTerms 63 = .ok (.goto (-45), 3) := by decide +kernel
theorem dX3_copyTerms_66 : decode cX3_copyTerms 66 = .ok (.return_, 1) := by decide +kernel
theorem dX3_copyTerms_8 : decode cX3_copyTerms 8 = .ok (.aload_n 0, 1) := by decide +kernel
theorem dX3_copyTerms_9 : decode cX3_copyTerms 9 = .ok (.aload_n 1, 1) := by decide +kernel
theorem dX3_instalmentFor_0 : decode cX3_instalmentFor 0 = .ok (.aload_n 0, 1) := by decide +kernel
theorem dX3_instalmentFor_1 : decode cX3_instalmentFor 1 = .ok (.getfield 31, 3) := by decide +kernel
theorem dX3_instalmentFor_10 : decode cX3_instalmentFor 10 = .ok (.istore 6, 2) := by decide +kernel
theorem dX3_instalmentFor_12 : decode cX3_instalmentFor 12 = .ok (.iload 6, 2) := by decide +kernel
theorem dX3_instalmentFor_14 : decode cX3_instalmentFor 14 = .ok (.iload 4, 2) := by decide +kernel
theorem dX3_instalmentFor_16 : decode cX3_instalmentFor 16 = .ok (.if_icmp .gt 17, 3) := by decide +kernel
theorem dX3_instalmentFor_19 : decode cX3_instalmentFor 19 = .ok (.aload_n 0, 1) := by decide +kernel
theorem dX3_instalmentFor_20 : decode cX3_instalmentFor 20 = .ok (.getfield 31, 3) := by decide +kernel
theorem dX3_instalmentFor_23 : decode cX3_instalmentFor 23 = .ok (.lconst 1, 1) := by decide +kernel
theorem dX3_instalmentFor_24 : decode cX3_instalmentFor 24 = .ok (.invokevirtual 66, 3) := by decide +kernel
theorem dX3_instalmentFor_27 : decode cX3_instalmentFor 27 = .ok (.iinc 6 1, 3) := by decide +kernel
theorem dX3_instalmentFor_30 : decode cX3_instalmentFor 30 = .ok (.goto (-18), 3) := by decide +kernel
theorem dX3_instalmentFor_33 : decode cX3_instalmentFor 33 = .ok (.aload 5, 2) := by decide +kernel
theorem dX3_instalmentFor_35 : decode cX3_instalmentFor 35 = .ok (.aload_n 0, 1) := by decide +kernel
theorem dX3_instalmentFor_36 : decode cX3_instalmentFor 36 = .ok (.getfield 31, 3) := by decide +kernel
theorem dX3_instalmentFor_39 : decode cX3_instalmentFor 39 = .ok (.lload_n 1, 1) := by decide +kernel
theorem dX3_instalmentFor_4 : decode cX3_instalmentFor 4 = .ok (.iload_n 3, 1) := by decide +kernel
theorem dX3_instalmentFor_40 : decode cX3_instalmentFor 40 = .ok (.iload 4, 2) := by decide +kernel
theorem dX3_instalmentFor_42 : decode cX3_instalmentFor 42 = .ok (.invokevirtual 70, 3) := by decide +kernel
theorem dX3_instalmentFor_45 : decode cX3_instalmentFor 45 = .ok (.aload_n 0, 1) := by decide +kernel
theorem dX3_instalmentFor_46 : decode cX3_instalmentFor 46 = .ok (.getfield 31, 3) := by decide +kernel
theorem dX3_instalmentFor_49 : decode cX3_instalmentFor 49 = .ok (.getfield 74, 3) := by decide +kernel
theorem dX3_instalmentFor_5 : decode cX3_instalmentFor 5 = .ok (.lconst 0, 1) := by decide +kernel
theorem dX3_instalmentFor_52 : decode cX3_instalmentFor 52 = .ok (.invokevirtual 78, 3) := by decide +kernel
theorem dX3_instalmentFor_55 : decode cX3_instalmentFor 55 = .ok (.lreturn, 1) := by decide +kernel
theorem dX3_instalmentFor_6 : decode cX3_instalmentFor 6 = .ok (.invokevirtual 62, 3) := by decide +kernel
theorem dX3_instalmentFor_9 : decode cX3_instalmentFor 9 = .ok (.iconst 1, 1) := by decide +kernel
theorem dX3_isRepaid_0 : decode cX3_isRepaid 0 = .ok (.aload_n 0, 1) := by decide +kernel
theorem dX3_isRepaid_1 : decode cX3_isRepaid 1 = .ok (.iconst 3, 1) := by decide +kernel
theorem dX3_isRepaid_10 : decode cX3_isRepaid 10 = .ok (.ifCond .ne 26, 3) := by decide +kernel
theorem dX3_isRepaid_13 : decode cX3_isRepaid 13 = .ok (.aload_n 0, 1) := by decide +kernel
theorem dX3_isRepaid_14 : decode cX3_isRepaid 14 = .ok (.iconst 2, 1) := by decide +kernel
theorem dX3_isRepaid_15 : decode cX3_isRepaid 15 = .ok (.invokevirtual 86, 3) := by decide +kernel
theorem dX3_isRepaid_18 : decode cX3_isRepaid 18 = .ok (.aload_n 0, 1) := by decide +kernel
theorem dX3_isRepaid_19 : decode cX3_isRepaid 19 = .ok (.getfield 35, 3) := by decide +kernel
theorem dX3_isRepaid_2 : decode cX3_isRepaid 2 = .ok (.invokevirtual 86, 3) := by decide +kernel
theorem dX3_isRepaid_22 : decode cX3_isRepaid 22 = .ok (.aload_n 0, 1) := by decide +kernel
theorem dX3_isRepaid_23 : decode cX3_isRepaid 23 = .ok (.iconst 1, 1) := by decide +kernel
theorem dX3_isRepaid_24 : decode cX3_isRepaid 24 = .ok (.invokevirtual 86, 3) := by decide +kernel
theorem dX3_isRepaid_27 : decode cX3_isRepaid 27 = .ok (.ladd, 1) := by decide +kernel
theorem dX3_isRepaid_28 : decode cX3_isRepaid 28 = .ok (.lcmp, 1) := by decide +kernel
theorem dX3_isRepaid_29 : decode cX3_isRepaid 29 = .ok (.ifCond .ne 7, 3) := by decide +kernel
theorem dX3_isRepaid_32 : decode cX3_isRepaid 32 = .ok (.iconst 1, 1) := by decide +kernel
theorem dX3_isRepaid_33 : decode cX3_isRepaid 33 = .ok (.goto 4, 3) := by decide +kernel
theorem dX3_isRepaid_37 : decode cX3_isRepaid 37 = .ok (.ireturn, 1) := by decide +kernel
theorem dX3_isRepaid_5 : decode cX3_isRepaid 5 = .ok (.aload_n 0, 1) := by decide +kernel
theorem dX3_isRepaid_6 : decode cX3_isRepaid 6 = .ok (.getfield 35, 3) := by decide +kernel
theorem dX3_isRepaid_9 : decode cX3_isRepaid 9 = .ok (.lcmp, 1) := by decide +kernel
theorem dX3_paidIn_0 : decode cX3_paidIn 0 = .ok (.aload_n 0, 1) := by decide +kernel
theorem dX3_paidIn_1 : decode cX3_paidIn 1 = .ok (.getfield 19, 3) := by decide +kernel
theorem dX3_paidIn_10 : decode cX3_paidIn 10 = .ok (.lreturn, 1) := by decide +kernel
theorem dX3_paidIn_11 : decode cX3_paidIn 11 = .ok (.iload_n 1, 1) := by decide +kernel
theorem dX3_paidIn_12 : decode cX3_paidIn 12 = .ok (.aload_n 0, 1) := by decide +kernel
theorem dX3_paidIn_13 : decode cX3_paidIn 13 = .ok (.getfield 39, 3) := by decide +kernel
theorem dX3_paidIn_16 : decode cX3_paidIn 16 = .ok (.if_icmp .eq 10, 3) := by decide +kernel
theorem dX3_paidIn_19 : decode cX3_paidIn 19 = .ok (.lload_n 2, 1) := by decide +kernel
theorem dX3_paidIn_20 : decode cX3_paidIn 20 = .ok (.lload 4, 2) := by decide +kernel
theorem dX3_paidIn_22 : decode cX3_paidIn 22 = .ok (.lcmp, 1) := by decide +kernel
theorem dX3_paidIn_23 : decode cX3_paidIn 23 = .ok (.ifCond .gt 5, 3) := by decide +kernel
theorem dX3_paidIn_26 : decode cX3_paidIn 26 = .ok (.lload_n 2, 1) := by decide +kernel
theorem dX3_paidIn_27 : decode cX3_paidIn 27 = .ok (.lreturn, 1) := by decide +kernel
theorem dX3_paidIn_28 : decode cX3_paidIn 28 = .ok (.lload 4, 2) := by decide +kernel
theorem dX3_paidIn_30 : decode cX3_paidIn 30 = .ok (.aload_n 0, 1) := by decide +kernel
theorem dX3_paidIn_31 : decode cX3_paidIn 31 = .ok (.getfield 15, 3) := by decide +kernel
theorem dX3_paidIn_34 : decode cX3_paidIn 34 = .ok (.iload_n 1, 1) := by decide +kernel
theorem dX3_paidIn_35 : decode cX3_paidIn 35 = .ok (.laload, 1) := by decide +kernel
theorem dX3_paidIn_36 : decode cX3_paidIn 36 = .ok (.lload_n 2, 1) := by decide +kernel
theorem dX3_paidIn_37 : decode cX3_paidIn 37 = .ok (.lload 4, 2) := by decide +kernel
theorem dX3_paidIn_39 : decode cX3_paidIn 39 = .ok (.lsub, 1) := by decide +kernel
theorem dX3_paidIn_4 : decode cX3_paidIn 4 = .ok (.iload_n 1, 1) := by decide +kernel
theorem dX3_paidIn_40 : decode cX3_paidIn 40 = .ok (.invokestatic 81, 3) := by decide +kernel
theorem dX3_paidIn_43 : decode cX3_paidIn 43 = .ok (.ladd, 1) := by decide +kernel
theorem dX3_paidIn_44 : decode cX3_paidIn 44 = .ok (.lreturn, 1) := by decide +kernel
theorem dX3_paidIn_5 : decode cX3_paidIn 5 = .ok (.baload, 1) := by decide +kernel
theorem dX3_paidIn_6 : decode cX3_paidIn 6 = .ok (.ifCond .eq 5, 3) := by decide +kernel
theorem dX3_paidIn_9 : decode cX3_paidIn 9 = .ok (.lconst 0, 1) := by decide +kernel
theorem dX3_sumOf_0 : decode cX3_sumOf 0 = .ok (.lconst 0, 1) := by decide +kernel
theorem dX3_sumOf_1 : decode cX3_sumOf 1 = .ok (.lstore_n 2, 1) := by decide +kernel
theorem dX3_sumOf_11 : decode cX3_sumOf 11 = .ok (.if_icmp .gt 21, 3) := by decide +kernel
theorem dX3_sumOf_14 : decode cX3_sumOf 14 = .ok (.lload_n 2, 1) := by decide +kernel
theorem dX3_sumOf_15 : decode cX3_sumOf 15 = .ok (.aload_n 0, 1) := by decide +kernel
theorem dX3_sumOf_16 : decode cX3_sumOf 16 = .ok (.getfield 25, 3) := by decide +kernel
theorem dX3_sumOf_19 : decode cX3_sumOf 19 = .ok (.iload_n 1, 1) := by decide +kernel
theorem dX3_sumOf_2 : decode cX3_sumOf 2 = .ok (.iconst 1, 1) := by decide +kernel
theorem dX3_sumOf_20 : decode cX3_sumOf 20 = .ok (.aaload, 1) := by decide +kernel
theorem dX3_sumOf_21 : decode cX3_sumOf 21 = .ok (.iload 4, 2) := by decide +kernel
theorem dX3_sumOf_23 : decode cX3_sumOf 23 = .ok (.laload, 1) := by decide +kernel
theorem dX3_sumOf_24 : decode cX3_sumOf 24 = .ok (.ladd, 1) := by decide +kernel
theorem dX3_sumOf_25 : decode cX3_sumOf 25 = .ok (.lstore_n 2, 1) := by decide +kernel
theorem dX3_sumOf_26 : decode cX3_sumOf 26 = .ok (.iinc 4 1, 3) := by decide +kernel
theorem dX3_sumOf_29 : decode cX3_sumOf 29 = .ok (.goto (-24), 3) := by decide +kernel
theorem dX3_sumOf_3 : decode cX3_sumOf 3 = .ok (.istore 4, 2) := by decide +kernel
theorem dX3_sumOf_32 : decode cX3_sumOf 32 = .ok (.lload_n 2, 1) := by decide +kernel
theorem dX3_sumOf_33 : decode cX3_sumOf 33 = .ok (.lreturn, 1) := by decide +kernel
theorem dX3_sumOf_5 : decode cX3_sumOf 5 = .ok (.iload 4, 2) := by decide +kernel
theorem dX3_sumOf_7 : decode cX3_sumOf 7 = .ok (.aload_n 0, 1) := by decide +kernel
theorem dX3_sumOf_8 : decode cX3_sumOf 8 = .ok (.getfield 43, 3) := by decide +kernel
theorem dX3_switchHoliday_0 : decode cX3_switchHoliday 0 = .ok (.aload_n 0, 1) := by decide +kernel
theorem dX3_switchHoliday_1 : decode cX3_switchHoliday 1 = .ok (.getfield 19, 3) := by decide +kernel
theorem dX3_switchHoliday_10 : decode cX3_switchHoliday 10 = .ok (.baload, 1) := by decide +kernel
theorem dX3_switchHoliday_11 : decode cX3_switchHoliday 11 = .ok (.ifCond .ne 7, 3) := by decide +kernel
theorem dX3_switchHoliday_14 : decode cX3_switchHoliday 14 = .ok (.iconst 1, 1) := by decide +kernel
theorem dX3_switchHoliday_15 : decode cX3_switchHoliday 15 = .ok (.goto 4, 3) := by decide +kernel
theorem dX3_switchHoliday_18 : decode cX3_switchHoliday 18 = .ok (.iconst 0, 1) := by decide +kernel
theorem dX3_switchHoliday_19 : decode cX3_switchHoliday 19 = .ok (.bastore, 1) := by decide +kernel
theorem dX3_switchHoliday_20 : decode cX3_switchHoliday 20 = .ok (.aload_n 0, 1) := by decide +kernel
theorem dX3_switchHoliday_21 : decode cX3_switchHoliday 21 = .ok (.getfield 19, 3) := by decide +kernel
theorem dX3_switchHoliday_24 : decode cX3_switchHoliday 24 = .ok (.iload_n 1, 1) := by decide +kernel
theorem dX3_switchHoliday_25 : decode cX3_switchHoliday 25 = .ok (.baload, 1) := by decide +kernel
theorem dX3_switchHoliday_26 : decode cX3_switchHoliday 26 = .ok (.ireturn, 1) := by decide +kernel
theorem dX3_switchHoliday_4 : decode cX3_switchHoliday 4 = .ok (.iload_n 1, 1) := by decide +kernel
theorem dX3_switchHoliday_5 : decode cX3_switchHoliday 5 = .ok (.aload_n 0, 1) := by decide +kernel
theorem dX3_switchHoliday_6 : decode cX3_switchHoliday 6 = .ok (.getfield 19, 3) := by decide +kernel
theorem dX3_switchHoliday_9 : decode cX3_switchHoliday 9 = .ok (.iload_n 1, 1) := by decide +kernel
theorem dX3_tellEarly_0 : decode cX3_tellEarly 0 = .ok (.aload_n 0, 1) := by decide +kernel
theorem dX3_tellEarly_1 : decode cX3_tellEarly 1 = .ok (.getfield 15, 3) := by decide +kernel
theorem dX3_tellEarly_4 : decode cX3_tellEarly 4 = .ok (.iload_n 1, 1) := by decide +kernel
theorem dX3_tellEarly_5 : decode cX3_tellEarly 5 = .ok (.lload_n 2, 1) := by decide +kernel
theorem dX3_tellEarly_6 : decode cX3_tellEarly 6 = .ok (.lastore, 1) := by decide +kernel
theorem dX3_tellEarly_7 : decode cX3_tellEarly 7 = .ok (.return_, 1) := by decide +kernel
theorem dX3_tellRate_0 : decode cX3_tellRate 0 = .ok (.aload_n 0, 1) := by decide +kernel
theorem dX3_tellRate_1 : decode cX3_tellRate 1 = .ok (.getfield 9, 3) := by decide +kernel
theorem dX3_tellRate_4 : decode cX3_tellRate 4 = .ok (.iload_n 1, 1) := by decide +kernel
theorem dX3_tellRate_5 : decode cX3_tellRate 5 = .ok (.iload_n 2, 1) := by decide +kernel
theorem dX3_tellRate_6 : decode cX3_tellRate 6 = .ok (.iastore, 1) := by decide +kernel
theorem dX3_tellRate_7 : decode cX3_tellRate 7 = .ok (.return_, 1) := by decide +kernel
theorem dX3_workOut_0 : decode cX3_workOut 0 = .ok (.aload_n 0, 1) := by decide +kernel
theorem dX3_workOut_1 : decode cX3_workOut 1 = .ok (.getfield 35, 3) := by decide +kernel
theorem dX3_workOut_101 : decode cX3_workOut 101 = .ok (.aload_n 0, 1) := by decide +kernel
theorem dX3_workOut_102 : decode cX3_workOut 102 = .ok (.getfield 25, 3) := by decide +kernel
theorem dX3_workOut_105 : decode cX3_workOut 105 = .ok (.iconst 0, 1) := by decide +kernel
theorem dX3_workOut_106 : decode cX3_workOut 106 = .ok (.aaload, 1) := by decide +kernel
theorem dX3_workOut_107 : decode cX3_workOut 107 = .ok (.iload 7, 2) := by decide +kernel
theorem dX3_workOut_109 : decode cX3_workOut 109 = .ok (.lload_n 2, 1) := by decide +kernel
theorem dX3_workOut_11 : decode cX3_workOut 11 = .ok (.aload_n 0, 1) := by decide +kernel
theorem dX3_workOut_110 : decode cX3_workOut 110 = .ok (.lastore, 1) := by decide +kernel
theorem dX3_workOut_111 : decode cX3_workOut 111 = .ok (.aload_n 0, 1) := by decide +kernel
theorem dX3_workOut_112 : decode cX3_workOut 112 = .ok (.getfield 25, 3) := by decide +kernel
theorem dX3_workOut_115 : decode cX3_workOut 115 = .ok (.iconst 1, 1) := by decide +kernel
theorem dX3_workOut_116 : decode cX3_workOut 116 = .ok (.aaload, 1) := by decide +kernel
theorem dX3_workOut_117 : decode cX3_workOut 117 = .ok (.iload 7, 2) := by decide +kernel
theorem dX3_workOut_119 : decode cX3_workOut 119 = .ok (.lload 8, 2) := by decide +kernel
theorem dX3_workOut_12 : decode cX3_workOut 12 = .ok (.iconst 0, 1) := by decide +kernel
theorem dX3_workOut_121 : decode cX3_workOut 121 = .ok (.lastore, 1) := by decide +kernel
theorem dX3_workOut_122 : decode cX3_workOut 122 = .ok (.aload_n 0, 1) := by decide +kernel
theorem dX3_workOut_123 : decode cX3_workOut 123 = .ok (.getfield 25, 3) := by decide +kernel
theorem dX3_workOut_126 : decode cX3_workOut 126 = .ok (.iconst 2, 1) := by decide +kernel
theorem dX3_workOut_127 : decode cX3_workOut 127 = .ok (.aaload, 1) := by decide +kernel
theorem dX3_workOut_128 : decode cX3_workOut 128 = .ok (.iload 7, 2) := by decide +kernel
theorem dX3_workOut_13 : decode cX3_workOut 13 = .ok (.putfield 43, 3) := by decide +kernel
theorem dX3_workOut_130 : decode cX3_workOut 130 = .ok (.lload 10, 2) := by decide +kernel
theorem dX3_workOut_132 : decode cX3_workOut 132 = .ok (.lastore, 1) := by decide +kernel
theorem dX3_workOut_133 : decode cX3_workOut 133 = .ok (.aload_n 0, 1) := by decide +kernel
theorem dX3_workOut_134 : decode cX3_workOut 134 = .ok (.getfield 25, 3) := by decide +kernel
theorem dX3_workOut_137 : decode cX3_workOut 137 = .ok (.iconst 3, 1) := by decide +kernel
theorem dX3_workOut_138 : decode cX3_workOut 138 = .ok (.aaload, 1) := by decide +kernel
theorem dX3_workOut_139 : decode cX3_workOut 139 = .ok (.iload 7, 2) := by decide +kernel
theorem dX3_workOut_141 : decode cX3_workOut 141 = .ok (.lload 10, 2) := by decide +kernel
theorem dX3_workOut_143 : decode cX3_workOut 143 = .ok (.lload 8, 2) := by decide +kernel
theorem dX3_workOut_145 : decode cX3_workOut 145 = .ok (.lsub, 1) := by decide +kernel
theorem dX3_workOut_146 : decode cX3_workOut 146 = .ok (.lastore, 1) := by decide +kernel
theorem dX3_workOut_147 : decode cX3_workOut 147 = .ok (.lload_n 2, 1) := by decide +kernel
theorem dX3_workOut_148 : decode cX3_workOut 148 = .ok (.lload 8, 2) := by decide +kernel
theorem dX3_workOut_150 : decode cX3_workOut 150 = .ok (.lload 10, 2) := by decide +kernel
theorem dX3_workOut_152 : decode cX3_workOut 152 = .ok (.lsub, 1) := by decide +kernel
theorem dX3_workOut_153 : decode cX3_workOut 153 = .ok (.ladd, 1) := by decide +kernel
theorem dX3_workOut_154 : decode cX3_workOut 154 = .ok (.lstore_n 2, 1) := by decide +kernel
theorem dX3_workOut_155 : decode cX3_workOut 155 = .ok (.aload_n 0, 1) := by decide +kernel
theorem dX3_workOut_156 : decode cX3_workOut 156 = .ok (.getfield 25, 3) := by decide +kernel
theorem dX3_workOut_159 : decode cX3_workOut 159 = .ok (.iconst 4, 1) := by decide +kernel
theorem dX3_workOut_16 : decode cX3_workOut 16 = .ok (.iconst 1, 1) := by decide +kernel
theorem dX3_workOut_160 : decode cX3_workOut 160 = .ok (.aaload, 1) := by decide +kernel
theorem dX3_workOut_161 : decode cX3_workOut 161 = .ok (.iload 7, 2) := by decide +kernel
theorem dX3_workOut_163 : decode cX3_workOut 163 = .ok (.lload_n 2, 1) := by decide +kernel
theorem dX3_workOut_164 : decode cX3_workOut 164 = .ok (.lastore, 1) := by decide +kernel
theorem dX3_workOut_165 : decode cX3_workOut 165 = .ok (.aload_n 0, 1) := by decide +kernel
theorem dX3_workOut_166 : decode cX3_workOut 166 = .ok (.getfield 25, 3) := by decide +kernel
theorem dX3_workOut_169 : decode cX3_workOut 169 = .ok (.iconst 5, 1) := by decide +kernel
theorem dX3_workOut_17 : decode cX3_workOut 17 = .ok (.istore 7, 2) := by decide +kernel
theorem dX3_workOut_170 : decode cX3_workOut 170 = .ok (.aaload, 1) := by decide +kernel
theorem dX3_workOut_171 : decode cX3_workOut 171 = .ok (.iload 7, 2) := by decide +kernel
theorem dX3_workOut_173 : decode cX3_workOut 173 = .ok (.iload 6, 2) := by decide +kernel
theorem dX3_workOut_175 : decode cX3_workOut 175 = .ok (.i2l, 1) := by decide +kernel
theorem dX3_workOut_176 : decode cX3_workOut 176 = .ok (.lastore, 1) := by decide +kernel
theorem dX3_workOut_177 : decode cX3_workOut 177 = .ok (.aload_n 0, 1) := by decide +kernel
theorem dX3_workOut_178 : decode cX3_workOut 178 = .ok (.getfield 25, 3) := by decide +kernel
theorem dX3_workOut_181 : decode cX3_workOut 181 = .ok (.bipush 6, 2) := by decide +kernel
theorem dX3_workOut_183 : decode cX3_workOut 183 = .ok (.aaload, 1) := by decide +kernel
theorem dX3_workOut_184 : decode cX3_workOut 184 = .ok (.iload 7, 2) := by decide +kernel
theorem dX3_workOut_186 : decode cX3_workOut 186 = .ok (.lload 4, 2) := by decide +kernel
theorem dX3_workOut_188 : decode cX3_workOut 188 = .ok (.lastore, 1) := by decide +kernel
theorem dX3_workOut_189 : decode cX3_workOut 189 = .ok (.aload_n 0, 1) := by decide +kernel
theorem dX3_workOut_19 : decode cX3_workOut 19 = .ok (.iload 7, 2) := by decide +kernel
theorem dX3_workOut_190 : decode cX3_workOut 190 = .ok (.iload 7, 2) := by decide +kernel
theorem dX3_workOut_192 : decode cX3_workOut 192 = .ok (.putfield 43, 3) := by decide +kernel
theorem dX3_workOut_195 : decode cX3_workOut 195 = .ok (.iinc 7 1, 3) := by decide +kernel
theorem dX3_workOut_198 : decode cX3_workOut 198 = .ok (.goto (-179), 3) := by decide +kernel
theorem dX3_workOut_201 : decode cX3_workOut 201 = .ok (.return_, 1) := by decide +kernel
theorem dX3_workOut_21 : decode cX3_workOut 21 = .ok (.aload_n 0, 1) := by decide +kernel
theorem dX3_workOut_22 : decode cX3_workOut 22 = .ok (.getfield 39, 3) := by decide +kernel
theorem dX3_workOut_25 : decode cX3_workOut 25 = .ok (.if_icmp .gt 176, 3) := by decide +kernel
theorem dX3_workOut_28 : decode cX3_workOut 28 = .ok (.lload_n 2, 1) := by decide +kernel
theorem dX3_workOut_29 : decode cX3_workOut 29 = .ok (.lconst 0, 1) := by decide +kernel
theorem dX3_workOut_30 : decode cX3_workOut 30 = .ok (.lcmp, 1) := by decide +kernel
theorem dX3_workOut_31 : decode cX3_workOut 31 = .ok (.ifCond .le 170, 3) := by decide +kernel
theorem dX3_workOut_34 : decode cX3_workOut 34 = .ok (.aload_n 0, 1) := by decide +kernel
theorem dX3_workOut_35 : decode cX3_workOut 35 = .ok (.getfield 9, 3) := by decide +kernel
theorem dX3_workOut_38 : decode cX3_workOut 38 = .ok (.iload 7, 2) := by decide +kernel
theorem dX3_workOut_4 : decode cX3_workOut 4 = .ok (.lstore_n 2, 1) := by decide +kernel
theorem dX3_workOut_40 : decode cX3_workOut 40 = .ok (.iaload, 1) := by decide +kernel
theorem dX3_workOut_41 : decode cX3_workOut 41 = .ok (.iconst (-1), 1) := by decide +kernel
theorem dX3_workOut_42 : decode cX3_workOut 42 = .ok (.if_icmp .eq 31, 3) := by decide +kernel
theorem dX3_workOut_45 : decode cX3_workOut 45 = .ok (.aload_n 0, 1) := by decide +kernel
theorem dX3_workOut_46 : decode cX3_workOut 46 = .ok (.getfield 9, 3) := by decide +kernel
theorem dX3_workOut_49 : decode cX3_workOut 49 = .ok (.iload 7, 2) := by decide +kernel
theorem dX3_workOut_5 : decode cX3_workOut 5 = .ok (.lconst 0, 1) := by decide +kernel
theorem dX3_workOut_51 : decode cX3_workOut 51 = .ok (.iaload, 1) := by decide +kernel
theorem dX3_workOut_52 : decode cX3_workOut 52 = .ok (.istore 6, 2) := by decide +kernel
theorem dX3_workOut_54 : decode cX3_workOut 54 = .ok (.aload_n 0, 1) := by decide +kernel
theorem dX3_workOut_55 : decode cX3_workOut 55 = .ok (.lload_n 2, 1) := by decide +kernel
theorem dX3_workOut_56 : decode cX3_workOut 56 = .ok (.iload 6, 2) := by decide +kernel
theorem dX3_workOut_58 : decode cX3_workOut 58 = .ok (.aload_n 0, 1) := by decide +kernel
theorem dX3_workOut_59 : decode cX3_workOut 59 = .ok (.getfield 39, 3) := by decide +kernel
theorem dX3_workOut_6 : decode cX3_workOut 6 = .ok (.lstore 4, 2) := by decide +kernel
theorem dX3_workOut_62 : decode cX3_workOut 62 = .ok (.iload 7, 2) := by decide +kernel
theorem dX3_workOut_64 : decode cX3_workOut 64 = .ok (.isub, 1) := by decide +kernel
theorem dX3_workOut_65 : decode cX3_workOut 65 = .ok (.iconst 1, 1) := by decide +kernel
theorem dX3_workOut_66 : decode cX3_workOut 66 = .ok (.iadd, 1) := by decide +kernel
theorem dX3_workOut_67 : decode cX3_workOut 67 = .ok (.aload_n 1, 1) := by decide +kernel
theorem dX3_workOut_68 : decode cX3_workOut 68 = .ok (.invokevirtual 46, 3) := by decide +kernel
theorem dX3_workOut_71 : decode cX3_workOut 71 = .ok (.lstore 4, 2) := by decide +kernel
theorem dX3_workOut_73 : decode cX3_workOut 73 = .ok (.aload_n 1, 1) := by decide +kernel
theorem dX3_workOut_74 : decode cX3_workOut 74 = .ok (.lload_n 2, 1) := by decide +kernel
theorem dX3_workOut_75 : decode cX3_workOut 75 = .ok (.iload 6, 2) := by decide +kernel
theorem dX3_workOut_77 : decode cX3_workOut 77 = .ok (.i2l, 1) := by decide +kernel
theorem dX3_workOut_78 : decode cX3_workOut 78 = .ok (.lmul, 1) := by decide +kernel
theorem dX3_workOut_79 : decode cX3_workOut 79 = .ok (.ldc2_w 50, 3) := by decide +kernel
theorem dX3_workOut_8 : decode cX3_workOut 8 = .ok (.iconst 0, 1) := by decide +kernel
theorem dX3_workOut_82 : decode cX3_workOut 82 = .ok (.invokevirtual 52, 3) := by decide +kernel
theorem dX3_workOut_85 : decode cX3_workOut 85 = .ok (.lstore 8, 2) := by decide +kernel
theorem dX3_workOut_87 : decode cX3_workOut 87 = .ok (.aload_n 0, 1) := by decide +kernel
theorem dX3_workOut_88 : decode cX3_workOut 88 = .ok (.iload 7, 2) := by decide +kernel
theorem dX3_workOut_9 : decode cX3_workOut 9 = .ok (.istore 6, 2) := by decide +kernel
theorem dX3_workOut_90 : decode cX3_workOut 90 = .ok (.lload_n 2, 1) := by decide +kernel
theorem dX3_workOut_91 : decode cX3_workOut 91 = .ok (.lload 8, 2) := by decide +kernel
theorem dX3_workOut_93 : decode cX3_workOut 93 = .ok (.ladd, 1) := by decide +kernel
theorem dX3_workOut_94 : decode cX3_workOut 94 = .ok (.lload 4, 2) := by decide +kernel
theorem dX3_workOut_96 : decode cX3_workOut 96 = .ok (.invokevirtual 58, 3) := by decide +kernel
theorem dX3_workOut_99 : decode cX3_workOut 99 = .ok (.lstore 10, 2) := by decide +kernel
set_option maxRecDepth 20000 in
theorem ggX3_instalmentFor_X1_begin : GoodIn wsX3_instalmentFor wsX1_begin := goodIn_r _ [7, 8, 9, 10, 6, 11, 12, 13, 14, 15, 16, 17, 18, 19, 20, 21, 22, 23, 24, 25, 26, 27, 28, 29, 30, 31, 32, 33, 34, 35, 36, 37, 38, 143, 144, 145, 146, 147, 148, 149, 150, 151] (by decide +kernel) (by decide +kernel)
set_option maxRecDepth 20000 in
theorem gX3_instalmentFor_X1_begin : GoodIn wsX3_instalmentFor (wsV RX3 62 RX1 yX1_begin wsX1_begin) := goodIn_app (goodIn_of _ (by decide +kernel)) ggX3_instalmentFor_X1_begin
set_option maxRecDepth 20000 in
theorem ggX3_instalmentFor_X1_next : GoodIn wsX3_instalmentFor wsX1_next := goodIn_r _ [42, 25, 22, 24, 21, 23, 43, 44, 45, 29, 46, 35, 36, 37, 38, 47, 48, 49, 50, 51, 52, 53, 54, 55, 56, 57, 58, 59, 60, 61, 62, 63, 15, 64, 65, 66, 67, 68, 31, 32, 33, 34, 69, 70, 71, 72, 73, 74, 75, 143, 144, 145, 146, 147, 148, 149, 150, 151] (by decide +kernel) (by decide +kernel)
set_option maxRecDepth 20000 in
theorem gX3_instalmentFor_X1_next : GoodIn wsX3_instalmentFor (wsV RX3 66 RX1 yX1_next wsX1_next) := goodIn_app (goodIn_of _ (by decide +kernel)) ggX3_instalmentFor_X1_next
set_option maxRecDepth 20000 in
theorem ggX3_instalmentFor_X1_upPower : GoodIn wsX3_instalmentFor wsX1_upPower := goodIn_r _ [79, 80, 21, 26, 27, 28, 29, 30, 31, 32, 33, 34, 35, 36, 37, 38, 81, 82, 83, 84, 85, 44, 45, 46, 47, 48, 49, 50, 51, 52, 53, 54, 55, 56, 57, 58, 59, 60, 61, 62, 63, 15, 64, 65, 66, 67, 68, 143, 144, 145, 146, 147, 148, 149, 150, 151] (by decide +kernel) (by decide +kernel)
set_option maxRecDepth 20000 in
theorem gX3_instalmentFor_X1_upPower : GoodIn wsX3_instalmentFor (wsV RX3 70 RX1 yX1_upPower wsX1_upPower) := goodIn_app (goodIn_of _ (by decide +kernel)) ggX3_instalmentFor_X1_upPower
set_option maxRecDepth 20000 in
theorem ggX3_instalmentFor_X4_ratio_ : GoodIn wsX3_instalmentFor wsX4_ratio_ := goodIn_ca (goodIn_r _ [90, 91, 92, 93, 94, 95, 29, 96, 38, 35, 97, 44, 45, 46, 36, 37, 47, 48, 49, 50, 51, 52, 53, 54, 55, 56, 57, 58, 59, 60, 61, 62, 63, 15, 64, 65, 66, 67, 68, 31, 32, 33, 34, 98, 99, 100, 101, 102, 103, 14, 16, 104, 105, 106, 107, 108, 109, 110, 111, 85, 112, 113, 114, 115, 116, 70, 71, 72, 73, 74, 75, 117, 118, 119, 89, 120, 121, 122, 123, 124, 125, 126, 127, 128, 129, 130, 131, 132, 133, 134, 149, 150, 151, 152] (by decide +kernel) (by decide +kernel)) (goodIn_sub (fun _ h => List.mem_cons_of_mem _ (List.mem_append_right _ h)) (by decide +kernel))
set_option maxRecDepth 20000 in
theorem gX3_instalmentFor_X4_ratio_ : GoodIn wsX3_instalmentFor (wsV RX3 78 RX4 yX4_ratio_ wsX4_ratio_) := goodIn_app (goodIn_of _ (by decide +kernel)) ggX3_instalmentFor_X4_ratio_
set_option maxRecDepth 20000 in
theorem ggX3_isRepaid_X3_sumOf : GoodIn wsX3_isRepaid wsX3_sumOf := goodIn_r _ [6, 7, 8, 9, 10, 11, 12, 13, 14, 15, 16] (by decide +kernel) (by decide +kernel)
set_option maxRecDepth 20000 in
theorem gX3_isRepaid_X3_sumOf : GoodIn wsX3_isRepaid (wsV RX3 86 RX3 yX3_sumOf wsX3_sumOf) := goodIn_app (goodIn_of _ (by decide +kernel)) ggX3_isRepaid_X3_sumOf
set_option maxRecDepth 20000 in
theorem ggX3_workOut_X3_instalmentFor : GoodIn wsX3_workOut wsX3_instalmentFor := goodIn_ca (goodIn_r _ [11, 12, 13, 14, 15, 16, 17, 18, 19, 20, 21, 22, 23, 24, 25, 26, 27, 28, 29, 30, 31, 32, 33, 34, 35, 36, 37, 38, 39, 40, 41, 42, 43, 44, 45, 46, 47, 48, 49, 50, 51, 52, 53, 54, 55, 56, 57, 58, 59, 60, 61, 62, 63, 64, 65, 66, 67, 68, 69, 70, 71, 72, 73, 74, 75, 76, 77, 78, 79, 80, 81, 82, 83, 84, 85, 86, 87, 88, 89, 90, 91, 92, 93, 94, 95, 96, 97, 98, 99, 100, 101, 102, 103, 104, 105, 106, 107, 108, 109, 110, 111, 112, 113, 114, 115, 116, 117, 118, 119, 120, 121, 122, 123, 124, 125, 126, 127, 128, 129, 130, 131, 132, 133, 134, 135, 136, 137, 138, 139, 140, 141, 142, 143, 144, 145, 162, 163, 164, 165, 166, 167, 168, 169, 170, 171, 172, 173, 174, 175, 176, 177, 178, 179] (by decide +kernel) (by decide +kernel)) (goodIn_sub (fun _ h => List.mem_cons_of_mem _ (List.mem_append_right _ h)) (by decide +kernel))
set_option maxRecDepth 20000 in
theorem gX3_workOut_X3_instalmentFor : GoodIn wsX3_workOut (wsV RX3 46 RX3 yX3_instalmentFor wsX3_instalmentFor) := goodIn_app (goodIn_of _ (by decide +kernel)) ggX3_workOut_X3_instalmentFor
set_option maxRecDepth 20000 in
theorem ggX3_workOut_X3_paidIn : GoodIn wsX3_workOut wsX3_paidIn := goodIn_r _ [156, 157, 3, 158, 159, 160, 26, 161, 162, 163, 164, 165, 166, 167, 168, 169] (by decide +kernel) (by decide +kernel)
set_option maxRecDepth 20000 in
theorem gX3_workOut_X3_paidIn : GoodIn wsX3_workOut (wsV RX3 58 RX3 yX3_paidIn wsX3_paidIn) := goodIn_app (goodIn_of _ (by decide +kernel)) ggX3_workOut_X3_paidIn
set_option maxRecDepth 20000 in
theorem ggX3_workOut_X4_ratio : GoodIn wsX3_workOut wsX4_ratio := goodIn_ca (goodIn_r _ [149, 150, 151, 26, 152, 129, 130, 100, 131, 132, 133, 134, 135, 136, 137, 138, 139, 140, 141, 142, 143, 144, 145, 103, 179] (by decide +kernel) (by decide +kernel)) (goodIn_sub (fun _ h => List.mem_cons_of_mem _ (List.mem_append_right _ h)) (by decide +kernel))
set_option maxRecDepth 20000 in
theorem gX3_workOut_X4_ratio : GoodIn wsX3_workOut (wsV RX3 52 RX4 yX4_ratio wsX4_ratio) := goodIn_app (goodIn_of _ (by decide +kernel)) ggX3_workOut_X4_ratio
