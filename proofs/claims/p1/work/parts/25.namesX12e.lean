-- printed rows that the walks use
theorem dX12_amountsThere_22 : decode cX12_amountsThere 22 = .ok (.iconst 1, 1) := by decide +kernel
theorem dX12_amountsThere_23 : decode cX12_amountsThere 23 = .ok (.goto 4, 3) := by decide +kernel
theorem dX12_payMany_101 : decode cX12_payMany 101 = .ok (.iand, 1) := by decide +kernel
theorem dX12_payMany_102 : decode cX12_payMany 102 = .ok (.istore 8, 2) := by decide +kernel
theorem dX12_payMany_104 : decode cX12_payMany 104 = .ok (.iinc 9 1, 3) := by decide +kernel
theorem dX12_payMany_107 : decode cX12_payMany 107 = .ok (.goto (-40), 3) := by decide +kernel
theorem dX12_payMany_124 : decode cX12_payMany 124 = .ok (.iconst 0, 1) := by decide +kernel
theorem dX12_payMany_125 : decode cX12_payMany 125 = .ok (.istore 9, 2) := by decide +kernel
theorem dX12_payMany_127 : decode cX12_payMany 127 = .ok (.iload 9, 2) := by decide +kernel
theorem dX12_payMany_129 : decode cX12_payMany 129 = .ok (.iload_n 2, 1) := by decide +kernel
theorem dX12_payMany_130 : decode cX12_payMany 130 = .ok (.if_icmp .ge 29, 3) := by decide +kernel
theorem dX12_payMany_133 : decode cX12_payMany 133 = .ok (.aload_n 0, 1) := by decide +kernel
theorem dX12_payMany_134 : decode cX12_payMany 134 = .ok (.getfield 65, 3) := by decide +kernel
theorem dX12_payMany_137 : decode cX12_payMany 137 = .ok (.iload_n 1, 1) := by decide +kernel
theorem dX12_payMany_138 : decode cX12_payMany 138 = .ok (.iload 9, 2) := by decide +kernel
theorem dX12_payMany_140 : decode cX12_payMany 140 = .ok (.iadd, 1) := by decide +kernel
theorem dX12_payMany_141 : decode cX12_payMany 141 = .ok (.dup2, 1) := by decide +kernel
theorem dX12_payMany_142 : decode cX12_payMany 142 = .ok (.laload, 1) := by decide +kernel
theorem dX12_payMany_143 : decode cX12_payMany 143 = .ok (.lload_n 3, 1) := by decide +kernel
theorem dX12_payMany_144 : decode cX12_payMany 144 = .ok (.iload 9, 2) := by decide +kernel
theorem dX12_payMany_146 : decode cX12_payMany 146 = .ok (.i2l, 1) := by decide +kernel
theorem dX12_payMany_147 : decode cX12_payMany 147 = .ok (.lload 5, 2) := by decide +kernel
theorem dX12_payMany_149 : decode cX12_payMany 149 = .ok (.lmul, 1) := by decide +kernel
theorem dX12_payMany_150 : decode cX12_payMany 150 = .ok (.ladd, 1) := by decide +kernel
theorem dX12_payMany_151 : decode cX12_payMany 151 = .ok (.ladd, 1) := by decide +kernel
theorem dX12_payMany_152 : decode cX12_payMany 152 = .ok (.lastore, 1) := by decide +kernel
theorem dX12_payMany_153 : decode cX12_payMany 153 = .ok (.iinc 9 1, 3) := by decide +kernel
theorem dX12_payMany_156 : decode cX12_payMany 156 = .ok (.goto (-29), 3) := by decide +kernel
theorem dX12_payMany_159 : decode cX12_payMany 159 = .ok (.aload_n 0, 1) := by decide +kernel
theorem dX12_payMany_160 : decode cX12_payMany 160 = .ok (.invokevirtual 137, 3) := by decide +kernel
theorem dX12_payMany_163 : decode cX12_payMany 163 = .ok (.ireturn, 1) := by decide +kernel
theorem dX12_payMany_53 : decode cX12_payMany 53 = .ok (.iconst 1, 1) := by decide +kernel
theorem dX12_payMany_54 : decode cX12_payMany 54 = .ok (.goto 4, 3) := by decide +kernel
theorem dX12_payMany_72 : decode cX12_payMany 72 = .ok (.iload 9, 2) := by decide +kernel
theorem dX12_payMany_74 : decode cX12_payMany 74 = .ok (.iload_n 2, 1) := by decide +kernel
theorem dX12_payMany_75 : decode cX12_payMany 75 = .ok (.if_icmp .ge 35, 3) := by decide +kernel
theorem dX12_payMany_78 : decode cX12_payMany 78 = .ok (.iload 8, 2) := by decide +kernel
theorem dX12_payMany_80 : decode cX12_payMany 80 = .ok (.aload_n 0, 1) := by decide +kernel
theorem dX12_payMany_81 : decode cX12_payMany 81 = .ok (.getfield 65, 3) := by decide +kernel
theorem dX12_payMany_84 : decode cX12_payMany 84 = .ok (.iload_n 1, 1) := by decide +kernel
theorem dX12_payMany_85 : decode cX12_payMany 85 = .ok (.iload 9, 2) := by decide +kernel
theorem dX12_payMany_87 : decode cX12_payMany 87 = .ok (.iadd, 1) := by decide +kernel
theorem dX12_payMany_88 : decode cX12_payMany 88 = .ok (.laload, 1) := by decide +kernel
theorem dX12_payMany_89 : decode cX12_payMany 89 = .ok (.lload_n 3, 1) := by decide +kernel
theorem dX12_payMany_90 : decode cX12_payMany 90 = .ok (.ladd, 1) := by decide +kernel
theorem dX12_payMany_91 : decode cX12_payMany 91 = .ok (.iload 9, 2) := by decide +kernel
theorem dX12_payMany_93 : decode cX12_payMany 93 = .ok (.i2l, 1) := by decide +kernel
theorem dX12_payMany_94 : decode cX12_payMany 94 = .ok (.lload 5, 2) := by decide +kernel
theorem dX12_payMany_96 : decode cX12_payMany 96 = .ok (.lmul, 1) := by decide +kernel
theorem dX12_payMany_97 : decode cX12_payMany 97 = .ok (.ladd, 1) := by decide +kernel
theorem dX12_payMany_98 : decode cX12_payMany 98 = .ok (.invokestatic 127, 3) := by decide +kernel
set_option maxRecDepth 20000 in
theorem ggX12_payMany_X12_amountsThere : GoodIn wsX12_payMany wsX12_amountsThere := goodIn_r _ [23, 5, 24, 25, 26, 27, 28, 29, 30, 31, 32, 33, 34, 35] (by decide +kernel) (by decide +kernel)
set_option maxRecDepth 20000 in
theorem gX12_payMany_X12_amountsThere : GoodIn wsX12_payMany (wsV RX12 137 RX12 yX12_amountsThere wsX12_amountsThere) := goodIn_app (goodIn_of _ (by decide +kernel)) ggX12_payMany_X12_amountsThere
