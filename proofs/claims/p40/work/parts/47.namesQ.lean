-- printed rows that the walks use
theorem dL_thousandfold_0 : decode cL_thousandfold 0 = .ok (.lconst 0, 1) := by decide +kernel
theorem dL_thousandfold_1 : decode cL_thousandfold 1 = .ok (.lstore 4, 2) := by decide +kernel
theorem dL_thousandfold_10 : decode cL_thousandfold 10 = .ok (.if_icmp .ge 56, 3) := by decide +kernel
theorem dL_thousandfold_13 : decode cL_thousandfold 13 = .ok (.iload 6, 2) := by decide +kernel
theorem dL_thousandfold_15 : decode cL_thousandfold 15 = .ok (.iconst 1, 1) := by decide +kernel
theorem dL_thousandfold_16 : decode cL_thousandfold 16 = .ok (.iadd, 1) := by decide +kernel
theorem dL_thousandfold_17 : decode cL_thousandfold 17 = .ok (.aload_n 0, 1) := by decide +kernel
theorem dL_thousandfold_18 : decode cL_thousandfold 18 = .ok (.arraylength, 1) := by decide +kernel
theorem dL_thousandfold_19 : decode cL_thousandfold 19 = .ok (.if_icmp .ge 16, 3) := by decide +kernel
theorem dL_thousandfold_22 : decode cL_thousandfold 22 = .ok (.aload_n 0, 1) := by decide +kernel
theorem dL_thousandfold_23 : decode cL_thousandfold 23 = .ok (.iload 6, 2) := by decide +kernel
theorem dL_thousandfold_25 : decode cL_thousandfold 25 = .ok (.iconst 1, 1) := by decide +kernel
theorem dL_thousandfold_26 : decode cL_thousandfold 26 = .ok (.iadd, 1) := by decide +kernel
theorem dL_thousandfold_27 : decode cL_thousandfold 27 = .ok (.laload, 1) := by decide +kernel
theorem dL_thousandfold_28 : decode cL_thousandfold 28 = .ok (.lload_n 2, 1) := by decide +kernel
theorem dL_thousandfold_29 : decode cL_thousandfold 29 = .ok (.invokestatic 208, 3) := by decide +kernel
theorem dL_thousandfold_3 : decode cL_thousandfold 3 = .ok (.iconst 0, 1) := by decide +kernel
theorem dL_thousandfold_32 : decode cL_thousandfold 32 = .ok (.goto 4, 3) := by decide +kernel
theorem dL_thousandfold_35 : decode cL_thousandfold 35 = .ok (.lload_n 2, 1) := by decide +kernel
theorem dL_thousandfold_36 : decode cL_thousandfold 36 = .ok (.lstore 7, 2) := by decide +kernel
theorem dL_thousandfold_38 : decode cL_thousandfold 38 = .ok (.lload 4, 2) := by decide +kernel
theorem dL_thousandfold_4 : decode cL_thousandfold 4 = .ok (.istore 6, 2) := by decide +kernel
theorem dL_thousandfold_40 : decode cL_thousandfold 40 = .ok (.lconst 0, 1) := by decide +kernel
theorem dL_thousandfold_41 : decode cL_thousandfold 41 = .ok (.lload 7, 2) := by decide +kernel
theorem dL_thousandfold_43 : decode cL_thousandfold 43 = .ok (.aload_n 0, 1) := by decide +kernel
theorem dL_thousandfold_44 : decode cL_thousandfold 44 = .ok (.iload 6, 2) := by decide +kernel
theorem dL_thousandfold_46 : decode cL_thousandfold 46 = .ok (.laload, 1) := by decide +kernel
theorem dL_thousandfold_47 : decode cL_thousandfold 47 = .ok (.lsub, 1) := by decide +kernel
theorem dL_thousandfold_48 : decode cL_thousandfold 48 = .ok (.invokestatic 242, 3) := by decide +kernel
theorem dL_thousandfold_51 : decode cL_thousandfold 51 = .ok (.aload_n 1, 1) := by decide +kernel
theorem dL_thousandfold_52 : decode cL_thousandfold 52 = .ok (.iload 6, 2) := by decide +kernel
theorem dL_thousandfold_54 : decode cL_thousandfold 54 = .ok (.iaload, 1) := by decide +kernel
theorem dL_thousandfold_55 : decode cL_thousandfold 55 = .ok (.i2l, 1) := by decide +kernel
theorem dL_thousandfold_56 : decode cL_thousandfold 56 = .ok (.lmul, 1) := by decide +kernel
theorem dL_thousandfold_57 : decode cL_thousandfold 57 = .ok (.ladd, 1) := by decide +kernel
theorem dL_thousandfold_58 : decode cL_thousandfold 58 = .ok (.lstore 4, 2) := by decide +kernel
theorem dL_thousandfold_6 : decode cL_thousandfold 6 = .ok (.iload 6, 2) := by decide +kernel
theorem dL_thousandfold_60 : decode cL_thousandfold 60 = .ok (.iinc 6 1, 3) := by decide +kernel
theorem dL_thousandfold_63 : decode cL_thousandfold 63 = .ok (.goto (-57), 3) := by decide +kernel
theorem dL_thousandfold_66 : decode cL_thousandfold 66 = .ok (.lload 4, 2) := by decide +kernel
theorem dL_thousandfold_68 : decode cL_thousandfold 68 = .ok (.lreturn, 1) := by decide +kernel
theorem dL_thousandfold_8 : decode cL_thousandfold 8 = .ok (.aload_n 0, 1) := by decide +kernel
theorem dL_thousandfold_9 : decode cL_thousandfold 9 = .ok (.arraylength, 1) := by decide +kernel
