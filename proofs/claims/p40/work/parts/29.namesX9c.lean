-- printed rows that the walks use
theorem dX9_change_0 : decode cX9_change 0 = .ok (.aload_n 0, 1) := by decide +kernel
theorem dX9_change_1 : decode cX9_change 1 = .ok (.invokevirtual 152, 3) := by decide +kernel
theorem dX9_change_10 : decode cX9_change 10 = .ok (.getfield 54, 3) := by decide +kernel
theorem dX9_change_13 : decode cX9_change 13 = .ok (.getfield 155, 3) := by decide +kernel
theorem dX9_change_16 : decode cX9_change 16 = .ok (.i2l, 1) := by decide +kernel
theorem dX9_change_17 : decode cX9_change 17 = .ok (.invokestatic 63, 3) := by decide +kernel
theorem dX9_change_20 : decode cX9_change 20 = .ok (.invokestatic 67, 3) := by decide +kernel
theorem dX9_change_23 : decode cX9_change 23 = .ok (.iload_n 2, 1) := by decide +kernel
theorem dX9_change_24 : decode cX9_change 24 = .ok (.invokestatic 114, 3) := by decide +kernel
theorem dX9_change_27 : decode cX9_change 27 = .ok (.aload_n 0, 1) := by decide +kernel
theorem dX9_change_28 : decode cX9_change 28 = .ok (.getfield 58, 3) := by decide +kernel
theorem dX9_change_31 : decode cX9_change 31 = .ok (.aload_n 0, 1) := by decide +kernel
theorem dX9_change_32 : decode cX9_change 32 = .ok (.getfield 54, 3) := by decide +kernel
theorem dX9_change_35 : decode cX9_change 35 = .ok (.invokevirtual 158, 3) := by decide +kernel
theorem dX9_change_38 : decode cX9_change 38 = .ok (.aload_n 0, 1) := by decide +kernel
theorem dX9_change_39 : decode cX9_change 39 = .ok (.getfield 58, 3) := by decide +kernel
theorem dX9_change_4 : decode cX9_change 4 = .ok (.iload_n 1, 1) := by decide +kernel
theorem dX9_change_42 : decode cX9_change 42 = .ok (.iload_n 1, 1) := by decide +kernel
theorem dX9_change_43 : decode cX9_change 43 = .ok (.iload_n 2, 1) := by decide +kernel
theorem dX9_change_44 : decode cX9_change 44 = .ok (.invokevirtual 168, 3) := by decide +kernel
theorem dX9_change_47 : decode cX9_change 47 = .ok (.aload_n 0, 1) := by decide +kernel
theorem dX9_change_48 : decode cX9_change 48 = .ok (.getfield 58, 3) := by decide +kernel
theorem dX9_change_5 : decode cX9_change 5 = .ok (.i2l, 1) := by decide +kernel
theorem dX9_change_51 : decode cX9_change 51 = .ok (.aload_n 0, 1) := by decide +kernel
theorem dX9_change_52 : decode cX9_change 52 = .ok (.getfield 10, 3) := by decide +kernel
theorem dX9_change_55 : decode cX9_change 55 = .ok (.invokevirtual 141, 3) := by decide +kernel
theorem dX9_change_58 : decode cX9_change 58 = .ok (.aload_n 0, 1) := by decide +kernel
theorem dX9_change_59 : decode cX9_change 59 = .ok (.invokevirtual 145, 3) := by decide +kernel
theorem dX9_change_6 : decode cX9_change 6 = .ok (.ldc2_w 166, 3) := by decide +kernel
theorem dX9_change_62 : decode cX9_change 62 = .ok (.aload_n 0, 1) := by decide +kernel
theorem dX9_change_63 : decode cX9_change 63 = .ok (.getfield 54, 3) := by decide +kernel
theorem dX9_change_66 : decode cX9_change 66 = .ok (.getfield 172, 3) := by decide +kernel
theorem dX9_change_69 : decode cX9_change 69 = .ok (.ireturn, 1) := by decide +kernel
theorem dX9_change_9 : decode cX9_change 9 = .ok (.aload_n 0, 1) := by decide +kernel
theorem dX9_demandLoan_0 : decode cX9_demandLoan 0 = .ok (.aload_n 0, 1) := by decide +kernel
theorem dX9_demandLoan_1 : decode cX9_demandLoan 1 = .ok (.getfield 54, 3) := by decide +kernel
theorem dX9_demandLoan_10 : decode cX9_demandLoan 10 = .ok (.iconst 1, 1) := by decide +kernel
theorem dX9_demandLoan_11 : decode cX9_demandLoan 11 = .ok (.goto 4, 3) := by decide +kernel
theorem dX9_demandLoan_14 : decode cX9_demandLoan 14 = .ok (.iconst 0, 1) := by decide +kernel
theorem dX9_demandLoan_15 : decode cX9_demandLoan 15 = .ok (.invokestatic 129, 3) := by decide +kernel
theorem dX9_demandLoan_18 : decode cX9_demandLoan 18 = .ok (.return_, 1) := by decide +kernel
theorem dX9_demandLoan_4 : decode cX9_demandLoan 4 = .ok (.getfield 155, 3) := by decide +kernel
theorem dX9_demandLoan_7 : decode cX9_demandLoan 7 = .ok (.ifCond .le 7, 3) := by decide +kernel
theorem dX9_early_0 : decode cX9_early 0 = .ok (.aload_n 0, 1) := by decide +kernel
theorem dX9_early_1 : decode cX9_early 1 = .ok (.invokevirtual 152, 3) := by decide +kernel
theorem dX9_early_11 : decode cX9_early 11 = .ok (.getfield 155, 3) := by decide +kernel
theorem dX9_early_14 : decode cX9_early 14 = .ok (.i2l, 1) := by decide +kernel
theorem dX9_early_15 : decode cX9_early 15 = .ok (.invokestatic 63, 3) := by decide +kernel
theorem dX9_early_18 : decode cX9_early 18 = .ok (.invokestatic 67, 3) := by decide +kernel
theorem dX9_early_21 : decode cX9_early 21 = .ok (.lload_n 2, 1) := by decide +kernel
theorem dX9_early_22 : decode cX9_early 22 = .ok (.lconst 0, 1) := by decide +kernel
theorem dX9_early_23 : decode cX9_early 23 = .ok (.ldc2_w 91, 3) := by decide +kernel
theorem dX9_early_26 : decode cX9_early 26 = .ok (.invokestatic 63, 3) := by decide +kernel
theorem dX9_early_29 : decode cX9_early 29 = .ok (.invokestatic 67, 3) := by decide +kernel
theorem dX9_early_32 : decode cX9_early 32 = .ok (.aload_n 0, 1) := by decide +kernel
theorem dX9_early_33 : decode cX9_early 33 = .ok (.getfield 58, 3) := by decide +kernel
theorem dX9_early_36 : decode cX9_early 36 = .ok (.aload_n 0, 1) := by decide +kernel
theorem dX9_early_37 : decode cX9_early 37 = .ok (.getfield 54, 3) := by decide +kernel
theorem dX9_early_4 : decode cX9_early 4 = .ok (.iload_n 1, 1) := by decide +kernel
theorem dX9_early_40 : decode cX9_early 40 = .ok (.invokevirtual 158, 3) := by decide +kernel
theorem dX9_early_43 : decode cX9_early 43 = .ok (.aload_n 0, 1) := by decide +kernel
theorem dX9_early_44 : decode cX9_early 44 = .ok (.getfield 58, 3) := by decide +kernel
theorem dX9_early_47 : decode cX9_early 47 = .ok (.iload_n 1, 1) := by decide +kernel
theorem dX9_early_48 : decode cX9_early 48 = .ok (.lload_n 2, 1) := by decide +kernel
theorem dX9_early_49 : decode cX9_early 49 = .ok (.invokevirtual 175, 3) := by decide +kernel
theorem dX9_early_5 : decode cX9_early 5 = .ok (.i2l, 1) := by decide +kernel
theorem dX9_early_52 : decode cX9_early 52 = .ok (.aload_n 0, 1) := by decide +kernel
theorem dX9_early_53 : decode cX9_early 53 = .ok (.getfield 58, 3) := by decide +kernel
theorem dX9_early_56 : decode cX9_early 56 = .ok (.aload_n 0, 1) := by decide +kernel
theorem dX9_early_57 : decode cX9_early 57 = .ok (.getfield 10, 3) := by decide +kernel
theorem dX9_early_6 : decode cX9_early 6 = .ok (.lconst 1, 1) := by decide +kernel
theorem dX9_early_60 : decode cX9_early 60 = .ok (.invokevirtual 141, 3) := by decide +kernel
theorem dX9_early_63 : decode cX9_early 63 = .ok (.aload_n 0, 1) := by decide +kernel
theorem dX9_early_64 : decode cX9_early 64 = .ok (.invokevirtual 145, 3) := by decide +kernel
theorem dX9_early_67 : decode cX9_early 67 = .ok (.aload_n 0, 1) := by decide +kernel
theorem dX9_early_68 : decode cX9_early 68 = .ok (.getfield 54, 3) := by decide +kernel
theorem dX9_early_7 : decode cX9_early 7 = .ok (.aload_n 0, 1) := by decide +kernel
theorem dX9_early_71 : decode cX9_early 71 = .ok (.getfield 172, 3) := by decide +kernel
theorem dX9_early_74 : decode cX9_early 74 = .ok (.ireturn, 1) := by decide +kernel
theorem dX9_early_8 : decode cX9_early 8 = .ok (.getfield 54, 3) := by decide +kernel
theorem dX9_holiday_0 : decode cX9_holiday 0 = .ok (.aload_n 0, 1) := by decide +kernel
theorem dX9_holiday_1 : decode cX9_holiday 1 = .ok (.invokevirtual 152, 3) := by decide +kernel
theorem dX9_holiday_11 : decode cX9_holiday 11 = .ok (.getfield 155, 3) := by decide +kernel
theorem dX9_holiday_14 : decode cX9_holiday 14 = .ok (.iconst 1, 1) := by decide +kernel
theorem dX9_holiday_15 : decode cX9_holiday 15 = .ok (.isub, 1) := by decide +kernel
theorem dX9_holiday_16 : decode cX9_holiday 16 = .ok (.i2l, 1) := by decide +kernel
theorem dX9_holiday_17 : decode cX9_holiday 17 = .ok (.invokestatic 63, 3) := by decide +kernel
theorem dX9_holiday_20 : decode cX9_holiday 20 = .ok (.invokestatic 67, 3) := by decide +kernel
theorem dX9_holiday_23 : decode cX9_holiday 23 = .ok (.aload_n 0, 1) := by decide +kernel
theorem dX9_holiday_24 : decode cX9_holiday 24 = .ok (.getfield 58, 3) := by decide +kernel
theorem dX9_holiday_27 : decode cX9_holiday 27 = .ok (.aload_n 0, 1) := by decide +kernel
theorem dX9_holiday_28 : decode cX9_holiday 28 = .ok (.getfield 54, 3) := by decide +kernel
theorem dX9_holiday_31 : decode cX9_holiday 31 = .ok (.invokevirtual 158, 3) := by decide +kernel
theorem dX9_holiday_34 : decode cX9_holiday 34 = .ok (.aload_n 0, 1) := by decide +kernel
theorem dX9_holiday_35 : decode cX9_holiday 35 = .ok (.getfield 58, 3) := by decide +kernel
theorem dX9_holiday_38 : decode cX9_holiday 38 = .ok (.iload_n 1, 1) := by decide +kernel
theorem dX9_holiday_39 : decode cX9_holiday 39 = .ok (.invokevirtual 162, 3) := by decide +kernel
theorem dX9_holiday_4 : decode cX9_holiday 4 = .ok (.iload_n 1, 1) := by decide +kernel
theorem dX9_holiday_42 : decode cX9_holiday 42 = .ok (.istore_n 2, 1) := by decide +kernel
theorem dX9_holiday_43 : decode cX9_holiday 43 = .ok (.aload_n 0, 1) := by decide +kernel
theorem dX9_holiday_44 : decode cX9_holiday 44 = .ok (.getfield 58, 3) := by decide +kernel
theorem dX9_holiday_47 : decode cX9_holiday 47 = .ok (.aload_n 0, 1) := by decide +kernel
theorem dX9_holiday_48 : decode cX9_holiday 48 = .ok (.getfield 10, 3) := by decide +kernel
theorem dX9_holiday_5 : decode cX9_holiday 5 = .ok (.i2l, 1) := by decide +kernel
theorem dX9_holiday_51 : decode cX9_holiday 51 = .ok (.invokevirtual 141, 3) := by decide +kernel
theorem dX9_holiday_54 : decode cX9_holiday 54 = .ok (.aload_n 0, 1) := by decide +kernel
theorem dX9_holiday_55 : decode cX9_holiday 55 = .ok (.invokevirtual 145, 3) := by decide +kernel
theorem dX9_holiday_58 : decode cX9_holiday 58 = .ok (.iload_n 2, 1) := by decide +kernel
theorem dX9_holiday_59 : decode cX9_holiday 59 = .ok (.ireturn, 1) := by decide +kernel
theorem dX9_holiday_6 : decode cX9_holiday 6 = .ok (.lconst 1, 1) := by decide +kernel
theorem dX9_holiday_7 : decode cX9_holiday 7 = .ok (.aload_n 0, 1) := by decide +kernel
theorem dX9_holiday_8 : decode cX9_holiday 8 = .ok (.getfield 54, 3) := by decide +kernel
theorem dX9_lend_0 : decode cX9_lend 0 = .ok (.lload_n 1, 1) := by decide +kernel
theorem dX9_lend_1 : decode cX9_lend 1 = .ok (.lconst 1, 1) := by decide +kernel
theorem dX9_lend_11 : decode cX9_lend 11 = .ok (.iload_n 3, 1) := by decide +kernel
theorem dX9_lend_12 : decode cX9_lend 12 = .ok (.invokestatic 114, 3) := by decide +kernel
theorem dX9_lend_15 : decode cX9_lend 15 = .ok (.iload 4, 2) := by decide +kernel
theorem dX9_lend_17 : decode cX9_lend 17 = .ok (.i2l, 1) := by decide +kernel
theorem dX9_lend_18 : decode cX9_lend 18 = .ok (.lconst 1, 1) := by decide +kernel
theorem dX9_lend_19 : decode cX9_lend 19 = .ok (.ldc2_w 135, 3) := by decide +kernel
theorem dX9_lend_2 : decode cX9_lend 2 = .ok (.ldc2_w 91, 3) := by decide +kernel
theorem dX9_lend_22 : decode cX9_lend 22 = .ok (.invokestatic 63, 3) := by decide +kernel
theorem dX9_lend_25 : decode cX9_lend 25 = .ok (.invokestatic 67, 3) := by decide +kernel
theorem dX9_lend_28 : decode cX9_lend 28 = .ok (.aload_n 0, 1) := by decide +kernel
theorem dX9_lend_29 : decode cX9_lend 29 = .ok (.getfield 58, 3) := by decide +kernel
theorem dX9_lend_32 : decode cX9_lend 32 = .ok (.lload_n 1, 1) := by decide +kernel
theorem dX9_lend_33 : decode cX9_lend 33 = .ok (.iload_n 3, 1) := by decide +kernel
theorem dX9_lend_34 : decode cX9_lend 34 = .ok (.iload 4, 2) := by decide +kernel
theorem dX9_lend_36 : decode cX9_lend 36 = .ok (.invokevirtual 137, 3) := by decide +kernel
theorem dX9_lend_39 : decode cX9_lend 39 = .ok (.aload_n 0, 1) := by decide +kernel
theorem dX9_lend_40 : decode cX9_lend 40 = .ok (.getfield 58, 3) := by decide +kernel
theorem dX9_lend_43 : decode cX9_lend 43 = .ok (.aload_n 0, 1) := by decide +kernel
theorem dX9_lend_44 : decode cX9_lend 44 = .ok (.getfield 10, 3) := by decide +kernel
theorem dX9_lend_47 : decode cX9_lend 47 = .ok (.invokevirtual 141, 3) := by decide +kernel
theorem dX9_lend_5 : decode cX9_lend 5 = .ok (.invokestatic 63, 3) := by decide +kernel
theorem dX9_lend_50 : decode cX9_lend 50 = .ok (.aload_n 0, 1) := by decide +kernel
theorem dX9_lend_51 : decode cX9_lend 51 = .ok (.invokevirtual 145, 3) := by decide +kernel
theorem dX9_lend_54 : decode cX9_lend 54 = .ok (.aload_n 0, 1) := by decide +kernel
theorem dX9_lend_55 : decode cX9_lend 55 = .ok (.getfield 54, 3) := by decide +kernel
theorem dX9_lend_58 : decode cX9_lend 58 = .ok (.iconst 1, 1) := by decide +kernel
theorem dX9_lend_59 : decode cX9_lend 59 = .ok (.bipush 6, 2) := by decide +kernel
theorem dX9_lend_61 : decode cX9_lend 61 = .ok (.invokevirtual 148, 3) := by decide +kernel
theorem dX9_lend_64 : decode cX9_lend 64 = .ok (.lreturn, 1) := by decide +kernel
theorem dX9_lend_8 : decode cX9_lend 8 = .ok (.invokestatic 67, 3) := by decide +kernel
theorem dX9_reserve_0 : decode cX9_reserve 0 = .ok (.iload_n 2, 1) := by decide +kernel
theorem dX9_reserve_1 : decode cX9_reserve 1 = .ok (.ifCond .lt 7, 3) := by decide +kernel
theorem dX9_reserve_12 : decode cX9_reserve 12 = .ok (.aload_n 0, 1) := by decide +kernel
theorem dX9_reserve_13 : decode cX9_reserve 13 = .ok (.iload_n 1, 1) := by decide +kernel
theorem dX9_reserve_14 : decode cX9_reserve 14 = .ok (.lload_n 3, 1) := by decide +kernel
theorem dX9_reserve_15 : decode cX9_reserve 15 = .ok (.iload 5, 2) := by decide +kernel
theorem dX9_reserve_17 : decode cX9_reserve 17 = .ok (.invokevirtual 210, 3) := by decide +kernel
theorem dX9_reserve_20 : decode cX9_reserve 20 = .ok (.iload_n 2, 1) := by decide +kernel
theorem dX9_reserve_21 : decode cX9_reserve 21 = .ok (.aload_n 0, 1) := by decide +kernel
theorem dX9_reserve_22 : decode cX9_reserve 22 = .ok (.getfield 33, 3) := by decide +kernel
theorem dX9_reserve_25 : decode cX9_reserve 25 = .ok (.getfield 203, 3) := by decide +kernel
theorem dX9_reserve_28 : decode cX9_reserve 28 = .ok (.iload_n 1, 1) := by decide +kernel
theorem dX9_reserve_29 : decode cX9_reserve 29 = .ok (.isub, 1) := by decide +kernel
theorem dX9_reserve_30 : decode cX9_reserve 30 = .ok (.if_icmp .ge 7, 3) := by decide +kernel
theorem dX9_reserve_33 : decode cX9_reserve 33 = .ok (.iconst 1, 1) := by decide +kernel
theorem dX9_reserve_34 : decode cX9_reserve 34 = .ok (.goto 4, 3) := by decide +kernel
theorem dX9_reserve_37 : decode cX9_reserve 37 = .ok (.iconst 0, 1) := by decide +kernel
theorem dX9_reserve_38 : decode cX9_reserve 38 = .ok (.invokestatic 179, 3) := by decide +kernel
theorem dX9_reserve_4 : decode cX9_reserve 4 = .ok (.iconst 1, 1) := by decide +kernel
theorem dX9_reserve_41 : decode cX9_reserve 41 = .ok (.aload_n 0, 1) := by decide +kernel
theorem dX9_reserve_42 : decode cX9_reserve 42 = .ok (.getfield 33, 3) := by decide +kernel
theorem dX9_reserve_45 : decode cX9_reserve 45 = .ok (.iload_n 1, 1) := by decide +kernel
theorem dX9_reserve_46 : decode cX9_reserve 46 = .ok (.iload_n 2, 1) := by decide +kernel
theorem dX9_reserve_47 : decode cX9_reserve 47 = .ok (.lload_n 3, 1) := by decide +kernel
theorem dX9_reserve_48 : decode cX9_reserve 48 = .ok (.iload 5, 2) := by decide +kernel
theorem dX9_reserve_5 : decode cX9_reserve 5 = .ok (.goto 4, 3) := by decide +kernel
theorem dX9_reserve_50 : decode cX9_reserve 50 = .ok (.aload_n 0, 1) := by decide +kernel
theorem dX9_reserve_51 : decode cX9_reserve 51 = .ok (.getfield 10, 3) := by decide +kernel
theorem dX9_reserve_54 : decode cX9_reserve 54 = .ok (.invokevirtual 224, 3) := by decide +kernel
theorem dX9_reserve_57 : decode cX9_reserve 57 = .ok (.lreturn, 1) := by decide +kernel
theorem dX9_reserve_8 : decode cX9_reserve 8 = .ok (.iconst 0, 1) := by decide +kernel
theorem dX9_reserve_9 : decode cX9_reserve 9 = .ok (.invokestatic 67, 3) := by decide +kernel
theorem dX9_rowOf_0 : decode cX9_rowOf 0 = .ok (.aload_n 0, 1) := by decide +kernel
theorem dX9_rowOf_1 : decode cX9_rowOf 1 = .ok (.invokevirtual 152, 3) := by decide +kernel
theorem dX9_rowOf_10 : decode cX9_rowOf 10 = .ok (.invokestatic 63, 3) := by decide +kernel
theorem dX9_rowOf_13 : decode cX9_rowOf 13 = .ok (.invokestatic 67, 3) := by decide +kernel
theorem dX9_rowOf_16 : decode cX9_rowOf 16 = .ok (.iload_n 1, 1) := by decide +kernel
theorem dX9_rowOf_17 : decode cX9_rowOf 17 = .ok (.i2l, 1) := by decide +kernel
theorem dX9_rowOf_18 : decode cX9_rowOf 18 = .ok (.lconst 1, 1) := by decide +kernel
theorem dX9_rowOf_19 : decode cX9_rowOf 19 = .ok (.aload_n 0, 1) := by decide +kernel
theorem dX9_rowOf_20 : decode cX9_rowOf 20 = .ok (.getfield 54, 3) := by decide +kernel
theorem dX9_rowOf_23 : decode cX9_rowOf 23 = .ok (.getfield 172, 3) := by decide +kernel
theorem dX9_rowOf_26 : decode cX9_rowOf 26 = .ok (.i2l, 1) := by decide +kernel
theorem dX9_rowOf_27 : decode cX9_rowOf 27 = .ok (.invokestatic 63, 3) := by decide +kernel
theorem dX9_rowOf_30 : decode cX9_rowOf 30 = .ok (.invokestatic 179, 3) := by decide +kernel
theorem dX9_rowOf_33 : decode cX9_rowOf 33 = .ok (.aload_n 0, 1) := by decide +kernel
theorem dX9_rowOf_34 : decode cX9_rowOf 34 = .ok (.getfield 54, 3) := by decide +kernel
theorem dX9_rowOf_37 : decode cX9_rowOf 37 = .ok (.iload_n 1, 1) := by decide +kernel
theorem dX9_rowOf_38 : decode cX9_rowOf 38 = .ok (.iload_n 2, 1) := by decide +kernel
theorem dX9_rowOf_39 : decode cX9_rowOf 39 = .ok (.invokevirtual 148, 3) := by decide +kernel
theorem dX9_rowOf_4 : decode cX9_rowOf 4 = .ok (.iload_n 2, 1) := by decide +kernel
theorem dX9_rowOf_42 : decode cX9_rowOf 42 = .ok (.lreturn, 1) := by decide +kernel
theorem dX9_rowOf_5 : decode cX9_rowOf 5 = .ok (.i2l, 1) := by decide +kernel
theorem dX9_rowOf_6 : decode cX9_rowOf 6 = .ok (.lconst 0, 1) := by decide +kernel
theorem dX9_rowOf_7 : decode cX9_rowOf 7 = .ok (.ldc2_w 79, 3) := by decide +kernel
theorem dX9_rows_0 : decode cX9_rows 0 = .ok (.aload_n 0, 1) := by decide +kernel
theorem dX9_rows_1 : decode cX9_rows 1 = .ok (.invokevirtual 152, 3) := by decide +kernel
theorem dX9_rows_11 : decode cX9_rows 11 = .ok (.ireturn, 1) := by decide +kernel
theorem dX9_rows_4 : decode cX9_rows 4 = .ok (.aload_n 0, 1) := by decide +kernel
theorem dX9_rows_5 : decode cX9_rows 5 = .ok (.getfield 54, 3) := by decide +kernel
theorem dX9_rows_8 : decode cX9_rows 8 = .ok (.getfield 172, 3) := by decide +kernel
theorem dX9_takeNextLoan_0 : decode cX9_takeNextLoan 0 = .ok (.aload_n 0, 1) := by decide +kernel
theorem dX9_takeNextLoan_1 : decode cX9_takeNextLoan 1 = .ok (.getfield 54, 3) := by decide +kernel
theorem dX9_takeNextLoan_10 : decode cX9_takeNextLoan 10 = .ok (.putfield 54, 3) := by decide +kernel
theorem dX9_takeNextLoan_13 : decode cX9_takeNextLoan 13 = .ok (.aload_n 0, 1) := by decide +kernel
theorem dX9_takeNextLoan_14 : decode cX9_takeNextLoan 14 = .ok (.aload_n 1, 1) := by decide +kernel
theorem dX9_takeNextLoan_15 : decode cX9_takeNextLoan 15 = .ok (.putfield 58, 3) := by decide +kernel
theorem dX9_takeNextLoan_18 : decode cX9_takeNextLoan 18 = .ok (.return_, 1) := by decide +kernel
theorem dX9_takeNextLoan_4 : decode cX9_takeNextLoan 4 = .ok (.astore_n 1, 1) := by decide +kernel
theorem dX9_takeNextLoan_5 : decode cX9_takeNextLoan 5 = .ok (.aload_n 0, 1) := by decide +kernel
theorem dX9_takeNextLoan_6 : decode cX9_takeNextLoan 6 = .ok (.aload_n 0, 1) := by decide +kernel
theorem dX9_takeNextLoan_7 : decode cX9_takeNextLoan 7 = .ok (.getfield 58, 3) := by decide +kernel
theorem dX9_total_0 : decode cX9_total 0 = .ok (.aload_n 0, 1) := by decide +kernel
theorem dX9_total_1 : decode cX9_total 1 = .ok (.invokevirtual 152, 3) := by decide +kernel
theorem dX9_total_10 : decode cX9_total 10 = .ok (.invokestatic 63, 3) := by decide +kernel
theorem dX9_total_13 : decode cX9_total 13 = .ok (.invokestatic 67, 3) := by decide +kernel
theorem dX9_total_16 : decode cX9_total 16 = .ok (.aload_n 0, 1) := by decide +kernel
theorem dX9_total_17 : decode cX9_total 17 = .ok (.getfield 54, 3) := by decide +kernel
theorem dX9_total_20 : decode cX9_total 20 = .ok (.iload_n 1, 1) := by decide +kernel
theorem dX9_total_21 : decode cX9_total 21 = .ok (.invokevirtual 184, 3) := by decide +kernel
theorem dX9_total_24 : decode cX9_total 24 = .ok (.lreturn, 1) := by decide +kernel
theorem dX9_total_4 : decode cX9_total 4 = .ok (.iload_n 1, 1) := by decide +kernel
theorem dX9_total_5 : decode cX9_total 5 = .ok (.i2l, 1) := by decide +kernel
theorem dX9_total_6 : decode cX9_total 6 = .ok (.lconst 1, 1) := by decide +kernel
theorem dX9_total_7 : decode cX9_total 7 = .ok (.ldc2_w 182, 3) := by decide +kernel
set_option maxRecDepth 20000 in
theorem ggX9_change_X3_copyTerms : GoodIn wsX9_change wsX3_copyTerms := goodIn_r _ [33, 34, 35, 36, 37, 38, 209, 210, 211, 212, 213, 214, 215, 216] (by decide +kernel) (by decide +kernel)
set_option maxRecDepth 20000 in
theorem gX9_change_X3_copyTerms : GoodIn wsX9_change (wsV RX9 158 RX3 yX3_copyTerms wsX3_copyTerms) := goodIn_app (goodIn_of _ (by decide +kernel)) ggX9_change_X3_copyTerms
set_option maxRecDepth 20000 in
theorem ggX9_change_X3_tellRate : GoodIn wsX9_change wsX3_tellRate := goodIn_r _ [42, 36, 209, 210, 211, 212, 213, 214, 215, 216] (by decide +kernel) (by decide +kernel)
set_option maxRecDepth 20000 in
theorem gX9_change_X3_tellRate : GoodIn wsX9_change (wsV RX9 168 RX3 yX3_tellRate wsX3_tellRate) := goodIn_app (goodIn_of _ (by decide +kernel)) ggX9_change_X3_tellRate
set_option maxRecDepth 20000 in
theorem ggX9_change_X3_workOut : GoodIn wsX9_change wsX3_workOut := goodIn_ca (goodIn_r _ [46, 34, 47, 35, 36, 48, 49, 50, 51, 52, 32, 53, 54, 55, 56, 57, 58, 59, 60, 61, 62, 63, 64, 65, 66, 67, 68, 69, 70, 71, 72, 73, 74, 75, 76, 77, 78, 79, 80, 81, 82, 83, 84, 85, 86, 87, 88, 89, 90, 91, 92, 93, 94, 95, 96, 97, 98, 99, 100, 101, 102, 103, 104, 105, 106, 107, 108, 109, 110, 111, 112, 113, 114, 115, 116, 117, 118, 119, 120, 121, 122, 123, 124, 125, 126, 127, 128, 129, 130, 131, 132, 133, 134, 135, 136, 137, 138, 139, 140, 141, 142, 143, 144, 145, 146, 147, 148, 149, 150, 151, 152, 153, 154, 155, 156, 157, 158, 159, 160, 161, 162, 163, 164, 165, 166, 167, 168, 169, 170, 171, 172, 173, 174, 175, 176, 177, 178, 13, 10, 14, 15, 16, 179, 180, 181, 182, 183, 184, 185, 186, 187, 188, 189, 190, 191, 192, 193, 38, 37, 194, 195, 196, 209, 210, 211, 212, 213, 214, 215, 216, 217, 218, 219, 220, 221, 222, 223, 224, 225, 226] (by decide +kernel) (by decide +kernel)) (goodIn_sub (fun _ h => List.mem_cons_of_mem _ (List.mem_append_left _ (List.mem_append_right _ h))) (by decide +kernel))
set_option maxRecDepth 20000 in
theorem gX9_change_X3_workOut : GoodIn wsX9_change (wsV RX9 141 RX3 yX3_workOut wsX3_workOut) := goodIn_app (goodIn_of _ (by decide +kernel)) ggX9_change_X3_workOut
set_option maxRecDepth 20000 in
theorem ggX9_change_X9_demand : GoodIn wsX9_change wsX9_demand := goodIn_ca (goodIn_r _ [22, 23, 24] (by decide +kernel) (by decide +kernel)) (goodIn_sub (fun _ h => List.mem_cons_of_mem _ (List.mem_append_right _ h)) (by decide +kernel))
set_option maxRecDepth 20000 in
theorem gX9_change_X9_demand : GoodIn wsX9_change (va_wsS RX9 67 yX9_demand wsX9_demand) := goodIn_app (goodIn_of _ (by decide +kernel)) ggX9_change_X9_demand
set_option maxRecDepth 20000 in
theorem ggX9_change_X9_demandLoan : GoodIn wsX9_change wsX9_demandLoan := goodIn_ca (goodIn_r _ [11, 2, 3, 12, 13, 10, 14, 15, 16, 201, 202, 203, 204, 205, 206, 207, 208, 209, 210, 211, 212, 213, 214, 215, 216] (by decide +kernel) (by decide +kernel)) (goodIn_sub (fun _ h => List.mem_cons_of_mem _ (List.mem_append_left _ (List.mem_append_right _ h))) (by decide +kernel))
set_option maxRecDepth 20000 in
theorem gX9_change_X9_demandLoan : GoodIn wsX9_change (wsV RX9 152 RX9 yX9_demandLoan wsX9_demandLoan) := goodIn_app (goodIn_of _ (by decide +kernel)) ggX9_change_X9_demandLoan
set_option maxRecDepth 20000 in
theorem ggX9_change_X9_demandRate : GoodIn wsX9_change wsX9_demandRate := goodIn_ca (goodIn_r _ [27, 28, 17, 18, 10, 19, 20, 21, 22, 23, 24] (by decide +kernel) (by decide +kernel)) (goodIn_sub (fun _ h => List.mem_cons_of_mem _ (List.mem_append_right _ h)) (by decide +kernel))
set_option maxRecDepth 20000 in
theorem gX9_change_X9_demandRate : GoodIn wsX9_change (va_wsS RX9 114 yX9_demandRate wsX9_demandRate) := goodIn_app (goodIn_of _ (by decide +kernel)) ggX9_change_X9_demandRate
set_option maxRecDepth 20000 in
theorem ggX9_change_X9_isWithin : GoodIn wsX9_change wsX9_isWithin := goodIn_r _ [19] (by decide +kernel) (by decide +kernel)
set_option maxRecDepth 20000 in
theorem gX9_change_X9_isWithin : GoodIn wsX9_change (va_wsS RX9 63 yX9_isWithin wsX9_isWithin) := goodIn_app (goodIn_of _ (by decide +kernel)) ggX9_change_X9_isWithin
set_option maxRecDepth 20000 in
theorem ggX9_change_X9_takeNextLoan : GoodIn wsX9_change wsX9_takeNextLoan := goodIn_r _ [200, 2, 4, 201, 202, 203, 204, 205, 206, 207, 208] (by decide +kernel) (by decide +kernel)
set_option maxRecDepth 20000 in
theorem gX9_change_X9_takeNextLoan : GoodIn wsX9_change (wsV RX9 145 RX9 yX9_takeNextLoan wsX9_takeNextLoan) := goodIn_app (goodIn_of _ (by decide +kernel)) ggX9_change_X9_takeNextLoan
set_option maxRecDepth 20000 in
theorem ggX9_demandLoan_X9_demandState : GoodIn wsX9_demandLoan wsX9_demandState := goodIn_ca (goodIn_r _ [6, 7, 8] (by decide +kernel) (by decide +kernel)) (goodIn_sub (fun _ h => List.mem_cons_of_mem _ (List.mem_append_right _ h)) (by decide +kernel))
set_option maxRecDepth 20000 in
theorem gX9_demandLoan_X9_demandState : GoodIn wsX9_demandLoan (va_wsS RX9 129 yX9_demandState wsX9_demandState) := goodIn_app (goodIn_of _ (by decide +kernel)) ggX9_demandLoan_X9_demandState
set_option maxRecDepth 20000 in
theorem ggX9_early_X3_copyTerms : GoodIn wsX9_early wsX3_copyTerms := goodIn_r _ [29, 30, 31, 32, 33, 34, 205, 206, 207, 208, 209, 210, 211, 212] (by decide +kernel) (by decide +kernel)
set_option maxRecDepth 20000 in
theorem gX9_early_X3_copyTerms : GoodIn wsX9_early (wsV RX9 158 RX3 yX3_copyTerms wsX3_copyTerms) := goodIn_app (goodIn_of _ (by decide +kernel)) ggX9_early_X3_copyTerms
set_option maxRecDepth 20000 in
theorem ggX9_early_X3_tellEarly : GoodIn wsX9_early wsX3_tellEarly := goodIn_r _ [38, 33, 205, 206, 207, 208, 209, 210, 211, 212] (by decide +kernel) (by decide +kernel)
set_option maxRecDepth 20000 in
theorem gX9_early_X3_tellEarly : GoodIn wsX9_early (wsV RX9 175 RX3 yX3_tellEarly wsX3_tellEarly) := goodIn_app (goodIn_of _ (by decide +kernel)) ggX9_early_X3_tellEarly
set_option maxRecDepth 20000 in
theorem ggX9_early_X3_workOut : GoodIn wsX9_early wsX3_workOut := goodIn_ca (goodIn_r _ [42, 30, 43, 31, 32, 44, 45, 46, 47, 48, 28, 49, 50, 51, 52, 53, 54, 55, 56, 57, 58, 59, 60, 61, 62, 63, 64, 65, 66, 67, 68, 69, 70, 71, 72, 73, 74, 75, 76, 77, 78, 79, 80, 81, 82, 83, 84, 85, 86, 87, 88, 89, 90, 91, 92, 93, 94, 95, 96, 97, 98, 99, 100, 101, 102, 103, 104, 105, 106, 107, 108, 109, 110, 111, 112, 113, 114, 115, 116, 117, 118, 119, 120, 121, 122, 123, 124, 125, 126, 127, 128, 129, 130, 131, 132, 133, 134, 135, 136, 137, 138, 139, 140, 141, 142, 143, 144, 145, 146, 147, 148, 149, 150, 151, 152, 153, 154, 155, 156, 157, 158, 159, 160, 161, 162, 163, 164, 165, 166, 167, 168, 169, 170, 171, 172, 173, 174, 13, 10, 14, 15, 16, 175, 176, 177, 178, 179, 180, 181, 182, 183, 184, 185, 186, 187, 188, 189, 34, 33, 190, 191, 192, 205, 206, 207, 208, 209, 210, 211, 212, 213, 214, 215, 216, 217, 218, 219, 220, 221, 222] (by decide +kernel) (by decide +kernel)) (goodIn_sub (fun _ h => List.mem_cons_of_mem _ (List.mem_append_left _ (List.mem_append_right _ h))) (by decide +kernel))
set_option maxRecDepth 20000 in
theorem gX9_early_X3_workOut : GoodIn wsX9_early (wsV RX9 141 RX3 yX3_workOut wsX3_workOut) := goodIn_app (goodIn_of _ (by decide +kernel)) ggX9_early_X3_workOut
set_option maxRecDepth 20000 in
theorem ggX9_early_X9_demand : GoodIn wsX9_early wsX9_demand := goodIn_ca (goodIn_r _ [22, 23, 24] (by decide +kernel) (by decide +kernel)) (goodIn_sub (fun _ h => List.mem_cons_of_mem _ (List.mem_append_right _ h)) (by decide +kernel))
set_option maxRecDepth 20000 in
theorem gX9_early_X9_demand : GoodIn wsX9_early (va_wsS RX9 67 yX9_demand wsX9_demand) := goodIn_app (goodIn_of _ (by decide +kernel)) ggX9_early_X9_demand
set_option maxRecDepth 20000 in
theorem ggX9_early_X9_demandLoan : GoodIn wsX9_early wsX9_demandLoan := goodIn_ca (goodIn_r _ [11, 1, 2, 12, 13, 10, 14, 15, 16, 197, 198, 199, 200, 201, 202, 203, 204, 205, 206, 207, 208, 209, 210, 211, 212] (by decide +kernel) (by decide +kernel)) (goodIn_sub (fun _ h => List.mem_cons_of_mem _ (List.mem_append_left _ (List.mem_append_right _ h))) (by decide +kernel))
set_option maxRecDepth 20000 in
theorem gX9_early_X9_demandLoan : GoodIn wsX9_early (wsV RX9 152 RX9 yX9_demandLoan wsX9_demandLoan) := goodIn_app (goodIn_of _ (by decide +kernel)) ggX9_early_X9_demandLoan
set_option maxRecDepth 20000 in
theorem ggX9_early_X9_isWithin : GoodIn wsX9_early wsX9_isWithin := goodIn_r _ [19] (by decide +kernel) (by decide +kernel)
set_option maxRecDepth 20000 in
theorem gX9_early_X9_isWithin : GoodIn wsX9_early (va_wsS RX9 63 yX9_isWithin wsX9_isWithin) := goodIn_app (goodIn_of _ (by decide +kernel)) ggX9_early_X9_isWithin
set_option maxRecDepth 20000 in
theorem ggX9_early_X9_takeNextLoan : GoodIn wsX9_early wsX9_takeNextLoan := goodIn_r _ [196, 1, 4, 197, 198, 199, 200, 201, 202, 203, 204] (by decide +kernel) (by decide +kernel)
set_option maxRecDepth 20000 in
theorem gX9_early_X9_takeNextLoan : GoodIn wsX9_early (wsV RX9 145 RX9 yX9_takeNextLoan wsX9_takeNextLoan) := goodIn_app (goodIn_of _ (by decide +kernel)) ggX9_early_X9_takeNextLoan
set_option maxRecDepth 20000 in
theorem ggX9_holiday_X3_copyTerms : GoodIn wsX9_holiday wsX3_copyTerms := goodIn_r _ [27, 28, 29, 30, 31, 32, 203, 204, 205, 206, 207, 208, 209, 210] (by decide +kernel) (by decide +kernel)
set_option maxRecDepth 20000 in
theorem gX9_holiday_X3_copyTerms : GoodIn wsX9_holiday (wsV RX9 158 RX3 yX3_copyTerms wsX3_copyTerms) := goodIn_app (goodIn_of _ (by decide +kernel)) ggX9_holiday_X3_copyTerms
set_option maxRecDepth 20000 in
theorem ggX9_holiday_X3_switchHoliday : GoodIn wsX9_holiday wsX3_switchHoliday := goodIn_r _ [36, 32, 203, 204, 205, 206, 207, 208, 209, 210] (by decide +kernel) (by decide +kernel)
set_option maxRecDepth 20000 in
theorem gX9_holiday_X3_switchHoliday : GoodIn wsX9_holiday (wsV RX9 162 RX3 yX3_switchHoliday wsX3_switchHoliday) := goodIn_app (goodIn_of _ (by decide +kernel)) ggX9_holiday_X3_switchHoliday
set_option maxRecDepth 20000 in
theorem ggX9_holiday_X3_workOut : GoodIn wsX9_holiday wsX3_workOut := goodIn_ca (goodIn_r _ [40, 28, 41, 29, 30, 42, 43, 44, 45, 46, 26, 47, 48, 49, 50, 51, 52, 53, 54, 55, 56, 57, 58, 59, 60, 61, 62, 63, 64, 65, 66, 67, 68, 69, 70, 71, 72, 73, 74, 75, 76, 77, 78, 79, 80, 81, 82, 83, 84, 85, 86, 87, 88, 89, 90, 91, 92, 93, 94, 95, 96, 97, 98, 99, 100, 101, 102, 103, 104, 105, 106, 107, 108, 109, 110, 111, 112, 113, 114, 115, 116, 117, 118, 119, 120, 121, 122, 123, 124, 125, 126, 127, 128, 129, 130, 131, 132, 133, 134, 135, 136, 137, 138, 139, 140, 141, 142, 143, 144, 145, 146, 147, 148, 149, 150, 151, 152, 153, 154, 155, 156, 157, 158, 159, 160, 161, 162, 163, 164, 165, 166, 167, 168, 169, 170, 171, 172, 11, 8, 12, 13, 14, 173, 174, 175, 176, 177, 178, 179, 180, 181, 182, 183, 184, 185, 186, 187, 32, 31, 188, 189, 190, 203, 204, 205, 206, 207, 208, 209, 210, 211, 212, 213, 214, 215, 216, 217, 218, 219, 220] (by decide +kernel) (by decide +kernel)) (goodIn_sub (fun _ h => List.mem_cons_of_mem _ (List.mem_append_left _ (List.mem_append_right _ h))) (by decide +kernel))
set_option maxRecDepth 20000 in
theorem gX9_holiday_X3_workOut : GoodIn wsX9_holiday (wsV RX9 141 RX3 yX3_workOut wsX3_workOut) := goodIn_app (goodIn_of _ (by decide +kernel)) ggX9_holiday_X3_workOut
set_option maxRecDepth 20000 in
theorem ggX9_holiday_X9_demand : GoodIn wsX9_holiday wsX9_demand := goodIn_ca (goodIn_r _ [20, 21, 22] (by decide +kernel) (by decide +kernel)) (goodIn_sub (fun _ h => List.mem_cons_of_mem _ (List.mem_append_right _ h)) (by decide +kernel))
set_option maxRecDepth 20000 in
theorem gX9_holiday_X9_demand : GoodIn wsX9_holiday (va_wsS RX9 67 yX9_demand wsX9_demand) := goodIn_app (goodIn_of _ (by decide +kernel)) ggX9_holiday_X9_demand
set_option maxRecDepth 20000 in
theorem ggX9_holiday_X9_demandLoan : GoodIn wsX9_holiday wsX9_demandLoan := goodIn_ca (goodIn_r _ [9, 1, 2, 10, 11, 8, 12, 13, 14, 195, 196, 197, 198, 199, 200, 201, 202, 203, 204, 205, 206, 207, 208, 209, 210] (by decide +kernel) (by decide +kernel)) (goodIn_sub (fun _ h => List.mem_cons_of_mem _ (List.mem_append_left _ (List.mem_append_right _ h))) (by decide +kernel))
set_option maxRecDepth 20000 in
theorem gX9_holiday_X9_demandLoan : GoodIn wsX9_holiday (wsV RX9 152 RX9 yX9_demandLoan wsX9_demandLoan) := goodIn_app (goodIn_of _ (by decide +kernel)) ggX9_holiday_X9_demandLoan
set_option maxRecDepth 20000 in
theorem ggX9_holiday_X9_isWithin : GoodIn wsX9_holiday wsX9_isWithin := goodIn_r _ [17] (by decide +kernel) (by decide +kernel)
set_option maxRecDepth 20000 in
theorem gX9_holiday_X9_isWithin : GoodIn wsX9_holiday (va_wsS RX9 63 yX9_isWithin wsX9_isWithin) := goodIn_app (goodIn_of _ (by decide +kernel)) ggX9_holiday_X9_isWithin
set_option maxRecDepth 20000 in
theorem ggX9_holiday_X9_takeNextLoan : GoodIn wsX9_holiday wsX9_takeNextLoan := goodIn_r _ [194, 1, 3, 195, 196, 197, 198, 199, 200, 201, 202] (by decide +kernel) (by decide +kernel)
set_option maxRecDepth 20000 in
theorem gX9_holiday_X9_takeNextLoan : GoodIn wsX9_holiday (wsV RX9 145 RX9 yX9_takeNextLoan wsX9_takeNextLoan) := goodIn_app (goodIn_of _ (by decide +kernel)) ggX9_holiday_X9_takeNextLoan
set_option maxRecDepth 20000 in
theorem ggX9_lend_X3_begin : GoodIn wsX9_lend wsX3_begin := goodIn_r _ [23, 24, 25, 26, 27, 28, 203, 204, 205, 206, 207, 208, 209, 210] (by decide +kernel) (by decide +kernel)
set_option maxRecDepth 20000 in
theorem gX9_lend_X3_begin : GoodIn wsX9_lend (wsV RX9 137 RX3 yX3_begin wsX3_begin) := goodIn_app (goodIn_of _ (by decide +kernel)) ggX9_lend_X3_begin
set_option maxRecDepth 20000 in
theorem ggX9_lend_X3_cell : GoodIn wsX9_lend wsX3_cell := goodIn_r _ [194, 35, 203, 204, 205, 206, 207, 208, 209, 210] (by decide +kernel) (by decide +kernel)
set_option maxRecDepth 20000 in
theorem gX9_lend_X3_cell : GoodIn wsX9_lend (wsV RX9 148 RX3 yX3_cell wsX3_cell) := goodIn_app (goodIn_of _ (by decide +kernel)) ggX9_lend_X3_cell
set_option maxRecDepth 20000 in
theorem ggX9_lend_X3_workOut : GoodIn wsX9_lend wsX3_workOut := goodIn_ca (goodIn_r _ [32, 24, 33, 25, 26, 34, 35, 36, 37, 38, 22, 39, 40, 41, 42, 43, 44, 45, 46, 47, 48, 49, 50, 51, 52, 53, 54, 55, 56, 57, 58, 59, 60, 61, 62, 63, 64, 65, 66, 67, 68, 69, 70, 71, 72, 73, 74, 75, 76, 77, 78, 79, 80, 81, 82, 83, 84, 85, 86, 87, 88, 89, 90, 91, 92, 93, 94, 95, 96, 97, 98, 99, 100, 101, 102, 103, 104, 105, 106, 107, 108, 109, 110, 111, 112, 113, 114, 115, 116, 117, 118, 119, 120, 121, 122, 123, 124, 125, 126, 127, 128, 129, 130, 131, 132, 133, 134, 135, 136, 137, 138, 139, 140, 141, 142, 143, 144, 145, 146, 147, 148, 149, 150, 151, 152, 153, 154, 155, 156, 157, 158, 159, 160, 161, 162, 163, 164, 165, 8, 166, 167, 168, 169, 170, 171, 172, 173, 174, 175, 176, 177, 178, 179, 180, 181, 182, 183, 28, 27, 184, 185, 186, 203, 204, 205, 206, 207, 208, 209, 210, 211, 212, 213, 214, 215, 216, 217, 218, 219, 220] (by decide +kernel) (by decide +kernel)) (goodIn_sub (fun _ h => List.mem_cons_of_mem _ (List.mem_append_right _ h)) (by decide +kernel))
set_option maxRecDepth 20000 in
theorem gX9_lend_X3_workOut : GoodIn wsX9_lend (wsV RX9 141 RX3 yX3_workOut wsX3_workOut) := goodIn_app (goodIn_of _ (by decide +kernel)) ggX9_lend_X3_workOut
set_option maxRecDepth 20000 in
theorem ggX9_lend_X9_demand : GoodIn wsX9_lend wsX9_demand := goodIn_ca (goodIn_r _ [12, 13, 14] (by decide +kernel) (by decide +kernel)) (goodIn_sub (fun _ h => List.mem_cons_of_mem _ (List.mem_append_left _ (List.mem_append_right _ h))) (by decide +kernel))
set_option maxRecDepth 20000 in
theorem gX9_lend_X9_demand : GoodIn wsX9_lend (va_wsS RX9 67 yX9_demand wsX9_demand) := goodIn_app (goodIn_of _ (by decide +kernel)) ggX9_lend_X9_demand
set_option maxRecDepth 20000 in
theorem ggX9_lend_X9_demandRate : GoodIn wsX9_lend wsX9_demandRate := goodIn_ca (goodIn_r _ [17, 18, 6, 7, 8, 9, 10, 11, 12, 13, 14] (by decide +kernel) (by decide +kernel)) (goodIn_sub (fun _ h => List.mem_cons_of_mem _ (List.mem_append_left _ (List.mem_append_right _ h))) (by decide +kernel))
set_option maxRecDepth 20000 in
theorem gX9_lend_X9_demandRate : GoodIn wsX9_lend (va_wsS RX9 114 yX9_demandRate wsX9_demandRate) := goodIn_app (goodIn_of _ (by decide +kernel)) ggX9_lend_X9_demandRate
set_option maxRecDepth 20000 in
theorem ggX9_lend_X9_isWithin : GoodIn wsX9_lend wsX9_isWithin := goodIn_r _ [9] (by decide +kernel) (by decide +kernel)
set_option maxRecDepth 20000 in
theorem gX9_lend_X9_isWithin : GoodIn wsX9_lend (va_wsS RX9 63 yX9_isWithin wsX9_isWithin) := goodIn_app (goodIn_of _ (by decide +kernel)) ggX9_lend_X9_isWithin
set_option maxRecDepth 20000 in
theorem ggX9_lend_X9_takeNextLoan : GoodIn wsX9_lend wsX9_takeNextLoan := goodIn_r _ [190, 5, 3, 195, 196, 197, 198, 199, 200, 201, 202] (by decide +kernel) (by decide +kernel)
set_option maxRecDepth 20000 in
theorem gX9_lend_X9_takeNextLoan : GoodIn wsX9_lend (wsV RX9 145 RX9 yX9_takeNextLoan wsX9_takeNextLoan) := goodIn_app (goodIn_of _ (by decide +kernel)) ggX9_lend_X9_takeNextLoan
set_option maxRecDepth 20000 in
theorem ggX9_reserve_X2_keptAfter : GoodIn wsX9_reserve wsX2_keptAfter := goodIn_ca (goodIn_r _ [31, 32, 33, 34, 35, 36, 37, 38, 39, 40, 30, 41, 42, 43, 44, 45, 46, 47, 48, 49, 50, 51, 52, 53, 54, 55, 56, 57, 58, 59, 60, 61, 62, 63, 64, 65, 66, 67, 68, 69, 70, 71, 72, 73, 74, 75, 76, 77, 78, 79, 80, 81, 82, 83, 84, 85, 86, 87, 88, 89, 90, 91, 92, 93, 94, 95, 96, 97, 98, 99, 100, 101, 102, 103, 104, 105, 106, 107, 108, 109, 110, 111, 112, 113, 114, 115, 116, 117, 118, 119, 120, 121, 122, 123, 124, 125, 126, 127, 128, 129, 130, 131, 132, 133, 134, 135, 136, 137, 138, 139, 140, 141, 142, 143, 144, 145, 146, 147, 148, 149, 150, 151, 152, 153, 154, 155, 156, 157, 158, 159, 160, 161, 162, 163, 6, 164, 165, 166, 167, 168, 169, 170, 179, 180, 181, 182, 183, 184, 185, 186, 187, 188, 189, 190, 191, 192] (by decide +kernel) (by decide +kernel)) (goodIn_sub (fun _ h => List.mem_cons_of_mem _ (List.mem_append_right _ h)) (by decide +kernel))
set_option maxRecDepth 20000 in
theorem gX9_reserve_X2_keptAfter : GoodIn wsX9_reserve (wsV RX9 224 RX2 yX2_keptAfter wsX2_keptAfter) := goodIn_app (goodIn_of _ (by decide +kernel)) ggX9_reserve_X2_keptAfter
set_option maxRecDepth 20000 in
theorem ggX9_reserve_X9_demand : GoodIn wsX9_reserve wsX9_demand := goodIn_ca (goodIn_r _ [7, 8, 9] (by decide +kernel) (by decide +kernel)) (goodIn_sub (fun _ h => List.mem_cons_of_mem _ (List.mem_append_left _ (List.mem_append_left _ (List.mem_append_right _ h)))) (by decide +kernel))
set_option maxRecDepth 20000 in
theorem gX9_reserve_X9_demand : GoodIn wsX9_reserve (va_wsS RX9 67 yX9_demand wsX9_demand) := goodIn_app (goodIn_of _ (by decide +kernel)) ggX9_reserve_X9_demand
set_option maxRecDepth 20000 in
theorem ggX9_reserve_X9_demandElement : GoodIn wsX9_reserve wsX9_demandElement := goodIn_ca (goodIn_r _ [24, 25, 26] (by decide +kernel) (by decide +kernel)) (goodIn_sub (fun _ h => List.mem_cons_of_mem _ (List.mem_append_left _ (List.mem_append_right _ h))) (by decide +kernel))
set_option maxRecDepth 20000 in
theorem gX9_reserve_X9_demandElement : GoodIn wsX9_reserve (va_wsS RX9 179 yX9_demandElement wsX9_demandElement) := goodIn_app (goodIn_of _ (by decide +kernel)) ggX9_reserve_X9_demandElement
set_option maxRecDepth 20000 in
theorem ggX9_reserve_X9_demandInsured : GoodIn wsX9_reserve wsX9_demandInsured := goodIn_ca (goodIn_ca (goodIn_r _ [13, 14, 1, 2, 15, 16, 6, 17, 4, 5, 7, 8, 9, 18, 19, 20, 21, 22, 23, 24, 25, 26, 171, 172, 173, 174, 175, 176, 177, 178, 179, 180, 181, 182] (by decide +kernel) (by decide +kernel)) (goodIn_sub (fun _ h => List.mem_cons_of_mem _ (List.mem_append_left _ (List.mem_append_left _ (List.mem_append_right _ h)))) (by decide +kernel))) (goodIn_sub (fun _ h => List.mem_cons_of_mem _ (List.mem_append_left _ (List.mem_append_right _ h))) (by decide +kernel))
set_option maxRecDepth 20000 in
theorem gX9_reserve_X9_demandInsured : GoodIn wsX9_reserve (wsV RX9 210 RX9 yX9_demandInsured wsX9_demandInsured) := goodIn_app (goodIn_of _ (by decide +kernel)) ggX9_reserve_X9_demandInsured
set_option maxRecDepth 20000 in
theorem ggX9_rowOf_X3_cell : GoodIn wsX9_rowOf wsX3_cell := goodIn_r _ [32, 33, 42, 43, 44, 45, 46, 47, 48, 49] (by decide +kernel) (by decide +kernel)
set_option maxRecDepth 20000 in
theorem gX9_rowOf_X3_cell : GoodIn wsX9_rowOf (wsV RX9 148 RX3 yX3_cell wsX3_cell) := goodIn_app (goodIn_of _ (by decide +kernel)) ggX9_rowOf_X3_cell
set_option maxRecDepth 20000 in
theorem ggX9_rowOf_X9_demand : GoodIn wsX9_rowOf wsX9_demand := goodIn_ca (goodIn_r _ [20, 21, 22] (by decide +kernel) (by decide +kernel)) (goodIn_sub (fun _ h => List.mem_cons_of_mem _ (List.mem_append_left _ (List.mem_append_right _ h))) (by decide +kernel))
set_option maxRecDepth 20000 in
theorem gX9_rowOf_X9_demand : GoodIn wsX9_rowOf (va_wsS RX9 67 yX9_demand wsX9_demand) := goodIn_app (goodIn_of _ (by decide +kernel)) ggX9_rowOf_X9_demand
set_option maxRecDepth 20000 in
theorem ggX9_rowOf_X9_demandElement : GoodIn wsX9_rowOf wsX9_demandElement := goodIn_ca (goodIn_r _ [25, 26, 27] (by decide +kernel) (by decide +kernel)) (goodIn_sub (fun _ h => List.mem_cons_of_mem _ (List.mem_append_right _ h)) (by decide +kernel))
set_option maxRecDepth 20000 in
theorem gX9_rowOf_X9_demandElement : GoodIn wsX9_rowOf (va_wsS RX9 179 yX9_demandElement wsX9_demandElement) := goodIn_app (goodIn_of _ (by decide +kernel)) ggX9_rowOf_X9_demandElement
set_option maxRecDepth 20000 in
theorem ggX9_rowOf_X9_demandLoan : GoodIn wsX9_rowOf wsX9_demandLoan := goodIn_ca (goodIn_r _ [8, 2, 9, 10, 11, 7, 12, 13, 14, 34, 35, 36, 37, 38, 39, 40, 41, 42, 43, 44, 45, 46, 47, 48, 49] (by decide +kernel) (by decide +kernel)) (goodIn_sub (fun _ h => List.mem_cons_of_mem _ (List.mem_append_left _ (List.mem_append_left _ (List.mem_append_right _ h)))) (by decide +kernel))
set_option maxRecDepth 20000 in
theorem gX9_rowOf_X9_demandLoan : GoodIn wsX9_rowOf (wsV RX9 152 RX9 yX9_demandLoan wsX9_demandLoan) := goodIn_app (goodIn_of _ (by decide +kernel)) ggX9_rowOf_X9_demandLoan
set_option maxRecDepth 20000 in
theorem ggX9_rowOf_X9_isWithin : GoodIn wsX9_rowOf wsX9_isWithin := goodIn_r _ [17] (by decide +kernel) (by decide +kernel)
set_option maxRecDepth 20000 in
theorem gX9_rowOf_X9_isWithin : GoodIn wsX9_rowOf (va_wsS RX9 63 yX9_isWithin wsX9_isWithin) := goodIn_app (goodIn_of _ (by decide +kernel)) ggX9_rowOf_X9_isWithin
set_option maxRecDepth 20000 in
theorem ggX9_rows_X9_demandLoan : GoodIn wsX9_rows wsX9_demandLoan := goodIn_ca (goodIn_r _ [7, 1, 8, 9, 10, 6, 11, 12, 13, 14, 15, 16, 17, 18, 19, 20, 21, 22, 23, 24, 25, 26, 27, 28, 29] (by decide +kernel) (by decide +kernel)) (goodIn_sub (fun _ h => List.mem_cons_of_mem _ (List.mem_append_right _ h)) (by decide +kernel))
set_option maxRecDepth 20000 in
theorem gX9_rows_X9_demandLoan : GoodIn wsX9_rows (wsV RX9 152 RX9 yX9_demandLoan wsX9_demandLoan) := goodIn_app (goodIn_of _ (by decide +kernel)) ggX9_rows_X9_demandLoan
set_option maxRecDepth 20000 in
theorem ggX9_total_X3_sumOf : GoodIn wsX9_total wsX3_sumOf := goodIn_r _ [26, 27, 28, 37, 38, 39, 40, 41, 42, 43, 44] (by decide +kernel) (by decide +kernel)
set_option maxRecDepth 20000 in
theorem gX9_total_X3_sumOf : GoodIn wsX9_total (wsV RX9 184 RX3 yX3_sumOf wsX3_sumOf) := goodIn_app (goodIn_of _ (by decide +kernel)) ggX9_total_X3_sumOf
set_option maxRecDepth 20000 in
theorem ggX9_total_X9_demand : GoodIn wsX9_total wsX9_demand := goodIn_ca (goodIn_r _ [19, 20, 21] (by decide +kernel) (by decide +kernel)) (goodIn_sub (fun _ h => List.mem_cons_of_mem _ (List.mem_append_right _ h)) (by decide +kernel))
set_option maxRecDepth 20000 in
theorem gX9_total_X9_demand : GoodIn wsX9_total (va_wsS RX9 67 yX9_demand wsX9_demand) := goodIn_app (goodIn_of _ (by decide +kernel)) ggX9_total_X9_demand
set_option maxRecDepth 20000 in
theorem ggX9_total_X9_demandLoan : GoodIn wsX9_total wsX9_demandLoan := goodIn_ca (goodIn_r _ [7, 2, 8, 9, 10, 6, 11, 12, 13, 29, 30, 31, 32, 33, 34, 35, 36, 37, 38, 39, 40, 41, 42, 43, 44] (by decide +kernel) (by decide +kernel)) (goodIn_sub (fun _ h => List.mem_cons_of_mem _ (List.mem_append_left _ (List.mem_append_right _ h))) (by decide +kernel))
set_option maxRecDepth 20000 in
theorem gX9_total_X9_demandLoan : GoodIn wsX9_total (wsV RX9 152 RX9 yX9_demandLoan wsX9_demandLoan) := goodIn_app (goodIn_of _ (by decide +kernel)) ggX9_total_X9_demandLoan
set_option maxRecDepth 20000 in
theorem ggX9_total_X9_isWithin : GoodIn wsX9_total wsX9_isWithin := goodIn_r _ [16] (by decide +kernel) (by decide +kernel)
set_option maxRecDepth 20000 in
theorem gX9_total_X9_isWithin : GoodIn wsX9_total (va_wsS RX9 63 yX9_isWithin wsX9_isWithin) := goodIn_app (goodIn_of _ (by decide +kernel)) ggX9_total_X9_isWithin
