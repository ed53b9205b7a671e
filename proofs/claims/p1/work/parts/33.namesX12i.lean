-- printed rows that the walks use
theorem dX12_interestShare_0 : decode cX12_interestShare 0 = .ok (.aload_n 0, 1) := by decide +kernel
theorem dX12_interestShare_1 : decode cX12_interestShare 1 = .ok (.iconst 0, 1) := by decide +kernel
theorem dX12_interestShare_12 : decode cX12_interestShare 12 = .ok (.fconst 0, 1) := by decide +kernel
theorem dX12_interestShare_13 : decode cX12_interestShare 13 = .ok (.goto 16, 3) := by decide +kernel
theorem dX12_interestShare_2 : decode cX12_interestShare 2 = .ok (.putfield 1, 3) := by decide +kernel
theorem dX12_interestShare_29 : decode cX12_interestShare 29 = .ok (.freturn, 1) := by decide +kernel
theorem dX12_interestShare_5 : decode cX12_interestShare 5 = .ok (.aload_n 0, 1) := by decide +kernel
theorem dX12_interestShare_6 : decode cX12_interestShare 6 = .ok (.getfield 217, 3) := by decide +kernel
theorem dX12_interestShare_9 : decode cX12_interestShare 9 = .ok (.ifnonnull 7, 3) := by decide +kernel
theorem dX12_meanAmount_0 : decode cX12_meanAmount 0 = .ok (.aload_n 0, 1) := by decide +kernel
theorem dX12_meanAmount_1 : decode cX12_meanAmount 1 = .ok (.iconst 0, 1) := by decide +kernel
theorem dX12_meanAmount_10 : decode cX12_meanAmount 10 = .ok (.bipush 41, 2) := by decide +kernel
theorem dX12_meanAmount_12 : decode cX12_meanAmount 12 = .ok (.if_icmp .ge 18, 3) := by decide +kernel
theorem dX12_meanAmount_15 : decode cX12_meanAmount 15 = .ok (.lload_n 1, 1) := by decide +kernel
theorem dX12_meanAmount_16 : decode cX12_meanAmount 16 = .ok (.aload_n 0, 1) := by decide +kernel
theorem dX12_meanAmount_17 : decode cX12_meanAmount 17 = .ok (.getfield 65, 3) := by decide +kernel
theorem dX12_meanAmount_2 : decode cX12_meanAmount 2 = .ok (.putfield 1, 3) := by decide +kernel
theorem dX12_meanAmount_20 : decode cX12_meanAmount 20 = .ok (.iload_n 3, 1) := by decide +kernel
theorem dX12_meanAmount_21 : decode cX12_meanAmount 21 = .ok (.laload, 1) := by decide +kernel
theorem dX12_meanAmount_22 : decode cX12_meanAmount 22 = .ok (.ladd, 1) := by decide +kernel
theorem dX12_meanAmount_23 : decode cX12_meanAmount 23 = .ok (.lstore_n 1, 1) := by decide +kernel
theorem dX12_meanAmount_24 : decode cX12_meanAmount 24 = .ok (.iinc 3 1, 3) := by decide +kernel
theorem dX12_meanAmount_27 : decode cX12_meanAmount 27 = .ok (.goto (-18), 3) := by decide +kernel
theorem dX12_meanAmount_30 : decode cX12_meanAmount 30 = .ok (.aload_n 0, 1) := by decide +kernel
theorem dX12_meanAmount_31 : decode cX12_meanAmount 31 = .ok (.invokevirtual 137, 3) := by decide +kernel
theorem dX12_meanAmount_34 : decode cX12_meanAmount 34 = .ok (.ifCond .ne 7, 3) := by decide +kernel
theorem dX12_meanAmount_37 : decode cX12_meanAmount 37 = .ok (.dconst 0, 1) := by decide +kernel
theorem dX12_meanAmount_38 : decode cX12_meanAmount 38 = .ok (.goto 11, 3) := by decide +kernel
theorem dX12_meanAmount_49 : decode cX12_meanAmount 49 = .ok (.dreturn, 1) := by decide +kernel
theorem dX12_meanAmount_5 : decode cX12_meanAmount 5 = .ok (.lconst 0, 1) := by decide +kernel
theorem dX12_meanAmount_6 : decode cX12_meanAmount 6 = .ok (.lstore_n 1, 1) := by decide +kernel
theorem dX12_meanAmount_7 : decode cX12_meanAmount 7 = .ok (.iconst 0, 1) := by decide +kernel
theorem dX12_meanAmount_8 : decode cX12_meanAmount 8 = .ok (.istore_n 3, 1) := by decide +kernel
theorem dX12_meanAmount_9 : decode cX12_meanAmount 9 = .ok (.iload_n 3, 1) := by decide +kernel
set_option maxRecDepth 20000 in
theorem ggX12_meanAmount_X12_amountsThere : GoodIn wsX12_meanAmount wsX12_amountsThere := goodIn_r _ [7, 2, 8, 9, 10, 11, 12, 13, 14, 15, 16, 17, 18, 19] (by decide +kernel) (by decide +kernel)
set_option maxRecDepth 20000 in
theorem gX12_meanAmount_X12_amountsThere : GoodIn wsX12_meanAmount (wsV RX12 137 RX12 yX12_amountsThere wsX12_amountsThere) := goodIn_app (goodIn_of _ (by decide +kernel)) ggX12_meanAmount_X12_amountsThere
