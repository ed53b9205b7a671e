-- printed rows that the walks use
theorem dX8_combine_0 : decode cX8_combine 0 = .ok (.aload_n 0, 1) := by decide +kernel
theorem dX8_combine_1 : decode cX8_combine 1 = .ok (.getfield 15, 3) := by decide +kernel
theorem dX8_combine_10 : decode cX8_combine 10 = .ok (.iadd, 1) := by decide +kernel
theorem dX8_combine_100 : decode cX8_combine 100 = .ok (.aload_n 3, 1) := by decide +kernel
theorem dX8_combine_101 : decode cX8_combine 101 = .ok (.getfield 19, 3) := by decide +kernel
theorem dX8_combine_104 : decode cX8_combine 104 = .ok (.ldc2_w 31, 3) := by decide +kernel
theorem dX8_combine_107 : decode cX8_combine 107 = .ok (.land, 1) := by decide +kernel
theorem dX8_combine_108 : decode cX8_combine 108 = .ok (.lstore 13, 2) := by decide +kernel
theorem dX8_combine_11 : decode cX8_combine 11 = .ok (.invokestatic 37, 3) := by decide +kernel
theorem dX8_combine_110 : decode cX8_combine 110 = .ok (.lload 8, 2) := by decide +kernel
theorem dX8_combine_112 : decode cX8_combine 112 = .ok (.lload 11, 2) := by decide +kernel
theorem dX8_combine_114 : decode cX8_combine 114 = .ok (.lload_n 1, 1) := by decide +kernel
theorem dX8_combine_115 : decode cX8_combine 115 = .ok (.lmul, 1) := by decide +kernel
theorem dX8_combine_116 : decode cX8_combine 116 = .ok (.lload 13, 2) := by decide +kernel
theorem dX8_combine_118 : decode cX8_combine 118 = .ok (.lload 4, 2) := by decide +kernel
theorem dX8_combine_120 : decode cX8_combine 120 = .ok (.lmul, 1) := by decide +kernel
theorem dX8_combine_121 : decode cX8_combine 121 = .ok (.ladd, 1) := by decide +kernel
theorem dX8_combine_122 : decode cX8_combine 122 = .ok (.ladd, 1) := by decide +kernel
theorem dX8_combine_123 : decode cX8_combine 123 = .ok (.lstore 8, 2) := by decide +kernel
theorem dX8_combine_125 : decode cX8_combine 125 = .ok (.aload_n 0, 1) := by decide +kernel
theorem dX8_combine_126 : decode cX8_combine 126 = .ok (.getfield 11, 3) := by decide +kernel
theorem dX8_combine_129 : decode cX8_combine 129 = .ok (.iload 10, 2) := by decide +kernel
theorem dX8_combine_131 : decode cX8_combine 131 = .ok (.lload 8, 2) := by decide +kernel
theorem dX8_combine_133 : decode cX8_combine 133 = .ok (.ldc2_w 31, 3) := by decide +kernel
theorem dX8_combine_136 : decode cX8_combine 136 = .ok (.land, 1) := by decide +kernel
theorem dX8_combine_137 : decode cX8_combine 137 = .ok (.lastore, 1) := by decide +kernel
theorem dX8_combine_138 : decode cX8_combine 138 = .ok (.lload 8, 2) := by decide +kernel
theorem dX8_combine_14 : decode cX8_combine 14 = .ok (.istore 7, 2) := by decide +kernel
theorem dX8_combine_140 : decode cX8_combine 140 = .ok (.bipush 30, 2) := by decide +kernel
theorem dX8_combine_142 : decode cX8_combine 142 = .ok (.lshr, 1) := by decide +kernel
theorem dX8_combine_143 : decode cX8_combine 143 = .ok (.lstore 8, 2) := by decide +kernel
theorem dX8_combine_145 : decode cX8_combine 145 = .ok (.iinc 10 1, 3) := by decide +kernel
theorem dX8_combine_148 : decode cX8_combine 148 = .ok (.goto (-120), 3) := by decide +kernel
theorem dX8_combine_151 : decode cX8_combine 151 = .ok (.aload_n 0, 1) := by decide +kernel
theorem dX8_combine_152 : decode cX8_combine 152 = .ok (.iload 7, 2) := by decide +kernel
theorem dX8_combine_154 : decode cX8_combine 154 = .ok (.aload_n 0, 1) := by decide +kernel
theorem dX8_combine_155 : decode cX8_combine 155 = .ok (.getfield 19, 3) := by decide +kernel
theorem dX8_combine_158 : decode cX8_combine 158 = .ok (.lload_n 1, 1) := by decide +kernel
theorem dX8_combine_159 : decode cX8_combine 159 = .ok (.lmul, 1) := by decide +kernel
theorem dX8_combine_16 : decode cX8_combine 16 = .ok (.aload_n 0, 1) := by decide +kernel
theorem dX8_combine_160 : decode cX8_combine 160 = .ok (.aload_n 3, 1) := by decide +kernel
theorem dX8_combine_161 : decode cX8_combine 161 = .ok (.getfield 19, 3) := by decide +kernel
theorem dX8_combine_164 : decode cX8_combine 164 = .ok (.lload 4, 2) := by decide +kernel
theorem dX8_combine_166 : decode cX8_combine 166 = .ok (.lmul, 1) := by decide +kernel
theorem dX8_combine_167 : decode cX8_combine 167 = .ok (.ladd, 1) := by decide +kernel
theorem dX8_combine_168 : decode cX8_combine 168 = .ok (.lload 8, 2) := by decide +kernel
theorem dX8_combine_17 : decode cX8_combine 17 = .ok (.iload 7, 2) := by decide +kernel
theorem dX8_combine_170 : decode cX8_combine 170 = .ok (.ladd, 1) := by decide +kernel
theorem dX8_combine_171 : decode cX8_combine 171 = .ok (.invokevirtual 23, 3) := by decide +kernel
theorem dX8_combine_174 : decode cX8_combine 174 = .ok (.return_, 1) := by decide +kernel
theorem dX8_combine_19 : decode cX8_combine 19 = .ok (.invokevirtual 27, 3) := by decide +kernel
theorem dX8_combine_22 : decode cX8_combine 22 = .ok (.lconst 0, 1) := by decide +kernel
theorem dX8_combine_23 : decode cX8_combine 23 = .ok (.lstore 8, 2) := by decide +kernel
theorem dX8_combine_25 : decode cX8_combine 25 = .ok (.iconst 0, 1) := by decide +kernel
theorem dX8_combine_26 : decode cX8_combine 26 = .ok (.istore 10, 2) := by decide +kernel
theorem dX8_combine_28 : decode cX8_combine 28 = .ok (.iload 10, 2) := by decide +kernel
theorem dX8_combine_30 : decode cX8_combine 30 = .ok (.iload 7, 2) := by decide +kernel
theorem dX8_combine_32 : decode cX8_combine 32 = .ok (.if_icmp .ge 119, 3) := by decide +kernel
theorem dX8_combine_35 : decode cX8_combine 35 = .ok (.iload 10, 2) := by decide +kernel
theorem dX8_combine_37 : decode cX8_combine 37 = .ok (.aload_n 0, 1) := by decide +kernel
theorem dX8_combine_38 : decode cX8_combine 38 = .ok (.getfield 15, 3) := by decide +kernel
theorem dX8_combine_4 : decode cX8_combine 4 = .ok (.aload_n 3, 1) := by decide +kernel
theorem dX8_combine_41 : decode cX8_combine 41 = .ok (.if_icmp .ge 13, 3) := by decide +kernel
theorem dX8_combine_44 : decode cX8_combine 44 = .ok (.aload_n 0, 1) := by decide +kernel
theorem dX8_combine_45 : decode cX8_combine 45 = .ok (.getfield 11, 3) := by decide +kernel
theorem dX8_combine_48 : decode cX8_combine 48 = .ok (.iload 10, 2) := by decide +kernel
theorem dX8_combine_5 : decode cX8_combine 5 = .ok (.getfield 15, 3) := by decide +kernel
theorem dX8_combine_50 : decode cX8_combine 50 = .ok (.laload, 1) := by decide +kernel
theorem dX8_combine_51 : decode cX8_combine 51 = .ok (.goto 11, 3) := by decide +kernel
theorem dX8_combine_54 : decode cX8_combine 54 = .ok (.aload_n 0, 1) := by decide +kernel
theorem dX8_combine_55 : decode cX8_combine 55 = .ok (.getfield 19, 3) := by decide +kernel
theorem dX8_combine_58 : decode cX8_combine 58 = .ok (.ldc2_w 31, 3) := by decide +kernel
theorem dX8_combine_61 : decode cX8_combine 61 = .ok (.land, 1) := by decide +kernel
theorem dX8_combine_62 : decode cX8_combine 62 = .ok (.lstore 11, 2) := by decide +kernel
theorem dX8_combine_64 : decode cX8_combine 64 = .ok (.iload 10, 2) := by decide +kernel
theorem dX8_combine_66 : decode cX8_combine 66 = .ok (.iload 6, 2) := by decide +kernel
theorem dX8_combine_68 : decode cX8_combine 68 = .ok (.if_icmp .ge 7, 3) := by decide +kernel
theorem dX8_combine_71 : decode cX8_combine 71 = .ok (.lconst 0, 1) := by decide +kernel
theorem dX8_combine_72 : decode cX8_combine 72 = .ok (.goto 36, 3) := by decide +kernel
theorem dX8_combine_75 : decode cX8_combine 75 = .ok (.iload 10, 2) := by decide +kernel
theorem dX8_combine_77 : decode cX8_combine 77 = .ok (.iload 6, 2) := by decide +kernel
theorem dX8_combine_79 : decode cX8_combine 79 = .ok (.isub, 1) := by decide +kernel
theorem dX8_combine_8 : decode cX8_combine 8 = .ok (.iload 6, 2) := by decide +kernel
theorem dX8_combine_80 : decode cX8_combine 80 = .ok (.aload_n 3, 1) := by decide +kernel
theorem dX8_combine_81 : decode cX8_combine 81 = .ok (.getfield 15, 3) := by decide +kernel
theorem dX8_combine_84 : decode cX8_combine 84 = .ok (.if_icmp .ge 16, 3) := by decide +kernel
theorem dX8_combine_87 : decode cX8_combine 87 = .ok (.aload_n 3, 1) := by decide +kernel
theorem dX8_combine_88 : decode cX8_combine 88 = .ok (.getfield 11, 3) := by decide +kernel
theorem dX8_combine_91 : decode cX8_combine 91 = .ok (.iload 10, 2) := by decide +kernel
theorem dX8_combine_93 : decode cX8_combine 93 = .ok (.iload 6, 2) := by decide +kernel
theorem dX8_combine_95 : decode cX8_combine 95 = .ok (.isub, 1) := by decide +kernel
theorem dX8_combine_96 : decode cX8_combine 96 = .ok (.laload, 1) := by decide +kernel
theorem dX8_combine_97 : decode cX8_combine 97 = .ok (.goto 11, 3) := by decide +kernel
theorem dX8_divide_0 : decode cX8_divide 0 = .ok (.aload_n 1, 1) := by decide +kernel
theorem dX8_divide_1 : decode cX8_divide 1 = .ok (.getfield 15, 3) := by decide +kernel
theorem dX8_divide_10 : decode cX8_divide 10 = .ok (.aload_n 1, 1) := by decide +kernel
theorem dX8_divide_100 : decode cX8_divide 100 = .ok (.invokevirtual 43, 3) := by decide +kernel
theorem dX8_divide_103 : decode cX8_divide 103 = .ok (.ladd, 1) := by decide +kernel
theorem dX8_divide_104 : decode cX8_divide 104 = .ok (.lload 4, 2) := by decide +kernel
theorem dX8_divide_106 : decode cX8_divide 106 = .ok (.lconst 1, 1) := by decide +kernel
theorem dX8_divide_107 : decode cX8_divide 107 = .ok (.ladd, 1) := by decide +kernel
theorem dX8_divide_108 : decode cX8_divide 108 = .ok (.ldiv, 1) := by decide +kernel
theorem dX8_divide_109 : decode cX8_divide 109 = .ok (.invokestatic 56, 3) := by decide +kernel
theorem dX8_divide_11 : decode cX8_divide 11 = .ok (.getfield 15, 3) := by decide +kernel
theorem dX8_divide_112 : decode cX8_divide 112 = .ok (.lstore 11, 2) := by decide +kernel
theorem dX8_divide_114 : decode cX8_divide 114 = .ok (.aload_n 0, 1) := by decide +kernel
theorem dX8_divide_115 : decode cX8_divide 115 = .ok (.lconst 1, 1) := by decide +kernel
theorem dX8_divide_116 : decode cX8_divide 116 = .ok (.aload_n 1, 1) := by decide +kernel
theorem dX8_divide_117 : decode cX8_divide 117 = .ok (.lload 11, 2) := by decide +kernel
theorem dX8_divide_119 : decode cX8_divide 119 = .ok (.lneg, 1) := by decide +kernel
theorem dX8_divide_120 : decode cX8_divide 120 = .ok (.iload 8, 2) := by decide +kernel
theorem dX8_divide_122 : decode cX8_divide 122 = .ok (.invokevirtual 59, 3) := by decide +kernel
theorem dX8_divide_125 : decode cX8_divide 125 = .ok (.lload 6, 2) := by decide +kernel
theorem dX8_divide_127 : decode cX8_divide 127 = .ok (.lload 11, 2) := by decide +kernel
theorem dX8_divide_129 : decode cX8_divide 129 = .ok (.iload 8, 2) := by decide +kernel
theorem dX8_divide_131 : decode cX8_divide 131 = .ok (.bipush 30, 2) := by decide +kernel
theorem dX8_divide_133 : decode cX8_divide 133 = .ok (.imul, 1) := by decide +kernel
theorem dX8_divide_134 : decode cX8_divide 134 = .ok (.lshl, 1) := by decide +kernel
theorem dX8_divide_135 : decode cX8_divide 135 = .ok (.ladd, 1) := by decide +kernel
theorem dX8_divide_136 : decode cX8_divide 136 = .ok (.lstore 6, 2) := by decide +kernel
theorem dX8_divide_138 : decode cX8_divide 138 = .ok (.iinc 10 1, 3) := by decide +kernel
theorem dX8_divide_14 : decode cX8_divide 14 = .ok (.iconst 1, 1) := by decide +kernel
theorem dX8_divide_141 : decode cX8_divide 141 = .ok (.goto (-73), 3) := by decide +kernel
theorem dX8_divide_144 : decode cX8_divide 144 = .ok (.iinc 8 (-1), 3) := by decide +kernel
theorem dX8_divide_147 : decode cX8_divide 147 = .ok (.goto (-96), 3) := by decide +kernel
theorem dX8_divide_15 : decode cX8_divide 15 = .ok (.isub, 1) := by decide +kernel
theorem dX8_divide_150 : decode cX8_divide 150 = .ok (.lload 6, 2) := by decide +kernel
theorem dX8_divide_152 : decode cX8_divide 152 = .ok (.lreturn, 1) := by decide +kernel
theorem dX8_divide_16 : decode cX8_divide 16 = .ok (.invokevirtual 43, 3) := by decide +kernel
theorem dX8_divide_19 : decode cX8_divide 19 = .ok (.invokestatic 47, 3) := by decide +kernel
theorem dX8_divide_22 : decode cX8_divide 22 = .ok (.lstore_n 2, 1) := by decide +kernel
theorem dX8_divide_23 : decode cX8_divide 23 = .ok (.aload_n 0, 1) := by decide +kernel
theorem dX8_divide_24 : decode cX8_divide 24 = .ok (.lload_n 2, 1) := by decide +kernel
theorem dX8_divide_25 : decode cX8_divide 25 = .ok (.invokevirtual 33, 3) := by decide +kernel
theorem dX8_divide_28 : decode cX8_divide 28 = .ok (.aload_n 1, 1) := by decide +kernel
theorem dX8_divide_29 : decode cX8_divide 29 = .ok (.lload_n 2, 1) := by decide +kernel
theorem dX8_divide_30 : decode cX8_divide 30 = .ok (.invokevirtual 33, 3) := by decide +kernel
theorem dX8_divide_33 : decode cX8_divide 33 = .ok (.aload_n 1, 1) := by decide +kernel
theorem dX8_divide_34 : decode cX8_divide 34 = .ok (.aload_n 1, 1) := by decide +kernel
theorem dX8_divide_35 : decode cX8_divide 35 = .ok (.getfield 15, 3) := by decide +kernel
theorem dX8_divide_38 : decode cX8_divide 38 = .ok (.iconst 1, 1) := by decide +kernel
theorem dX8_divide_39 : decode cX8_divide 39 = .ok (.isub, 1) := by decide +kernel
theorem dX8_divide_4 : decode cX8_divide 4 = .ok (.ifCond .ne 5, 3) := by decide +kernel
theorem dX8_divide_40 : decode cX8_divide 40 = .ok (.invokevirtual 43, 3) := by decide +kernel
theorem dX8_divide_43 : decode cX8_divide 43 = .ok (.lstore 4, 2) := by decide +kernel
theorem dX8_divide_45 : decode cX8_divide 45 = .ok (.lconst 0, 1) := by decide +kernel
theorem dX8_divide_46 : decode cX8_divide 46 = .ok (.lstore 6, 2) := by decide +kernel
theorem dX8_divide_48 : decode cX8_divide 48 = .ok (.iconst 1, 1) := by decide +kernel
theorem dX8_divide_49 : decode cX8_divide 49 = .ok (.istore 8, 2) := by decide +kernel
theorem dX8_divide_51 : decode cX8_divide 51 = .ok (.iload 8, 2) := by decide +kernel
theorem dX8_divide_53 : decode cX8_divide 53 = .ok (.ifCond .lt 97, 3) := by decide +kernel
theorem dX8_divide_56 : decode cX8_divide 56 = .ok (.aload_n 1, 1) := by decide +kernel
theorem dX8_divide_57 : decode cX8_divide 57 = .ok (.getfield 15, 3) := by decide +kernel
theorem dX8_divide_60 : decode cX8_divide 60 = .ok (.iload 8, 2) := by decide +kernel
theorem dX8_divide_62 : decode cX8_divide 62 = .ok (.iadd, 1) := by decide +kernel
theorem dX8_divide_63 : decode cX8_divide 63 = .ok (.istore 9, 2) := by decide +kernel
theorem dX8_divide_65 : decode cX8_divide 65 = .ok (.iconst 0, 1) := by decide +kernel
theorem dX8_divide_66 : decode cX8_divide 66 = .ok (.istore 10, 2) := by decide +kernel
theorem dX8_divide_68 : decode cX8_divide 68 = .ok (.iload 10, 2) := by decide +kernel
theorem dX8_divide_70 : decode cX8_divide 70 = .ok (.ldc 51, 2) := by decide +kernel
theorem dX8_divide_72 : decode cX8_divide 72 = .ok (.if_icmp .ge 72, 3) := by decide +kernel
theorem dX8_divide_75 : decode cX8_divide 75 = .ok (.aload_n 0, 1) := by decide +kernel
theorem dX8_divide_76 : decode cX8_divide 76 = .ok (.aload_n 1, 1) := by decide +kernel
theorem dX8_divide_77 : decode cX8_divide 77 = .ok (.iload 8, 2) := by decide +kernel
theorem dX8_divide_79 : decode cX8_divide 79 = .ok (.invokevirtual 52, 3) := by decide +kernel
theorem dX8_divide_82 : decode cX8_divide 82 = .ok (.ifCond .eq 62, 3) := by decide +kernel
theorem dX8_divide_85 : decode cX8_divide 85 = .ok (.lconst 1, 1) := by decide +kernel
theorem dX8_divide_86 : decode cX8_divide 86 = .ok (.aload_n 0, 1) := by decide +kernel
theorem dX8_divide_87 : decode cX8_divide 87 = .ok (.iload 9, 2) := by decide +kernel
theorem dX8_divide_89 : decode cX8_divide 89 = .ok (.invokevirtual 43, 3) := by decide +kernel
theorem dX8_divide_9 : decode cX8_divide 9 = .ok (.aload_n 1, 1) := by decide +kernel
theorem dX8_divide_92 : decode cX8_divide 92 = .ok (.bipush 30, 2) := by decide +kernel
theorem dX8_divide_94 : decode cX8_divide 94 = .ok (.lshl, 1) := by decide +kernel
theorem dX8_divide_95 : decode cX8_divide 95 = .ok (.aload_n 0, 1) := by decide +kernel
theorem dX8_divide_96 : decode cX8_divide 96 = .ok (.iload 9, 2) := by decide +kernel
theorem dX8_divide_98 : decode cX8_divide 98 = .ok (.iconst 1, 1) := by decide +kernel
theorem dX8_divide_99 : decode cX8_divide 99 = .ok (.isub, 1) := by decide +kernel
theorem dX8_finish_0 : decode cX8_finish 0 = .ok (.lload_n 2, 1) := by decide +kernel
theorem dX8_finish_1 : decode cX8_finish 1 = .ok (.lstore 4, 2) := by decide +kernel
theorem dX8_finish_10 : decode cX8_finish 10 = .ok (.iload_n 1, 1) := by decide +kernel
theorem dX8_finish_11 : decode cX8_finish 11 = .ok (.istore 6, 2) := by decide +kernel
theorem dX8_finish_13 : decode cX8_finish 13 = .ok (.iload 6, 2) := by decide +kernel
theorem dX8_finish_15 : decode cX8_finish 15 = .ok (.aload_n 0, 1) := by decide +kernel
theorem dX8_finish_16 : decode cX8_finish 16 = .ok (.getfield 15, 3) := by decide +kernel
theorem dX8_finish_19 : decode cX8_finish 19 = .ok (.if_icmp .ge 29, 3) := by decide +kernel
theorem dX8_finish_22 : decode cX8_finish 22 = .ok (.aload_n 0, 1) := by decide +kernel
theorem dX8_finish_23 : decode cX8_finish 23 = .ok (.getfield 11, 3) := by decide +kernel
theorem dX8_finish_26 : decode cX8_finish 26 = .ok (.iload 6, 2) := by decide +kernel
theorem dX8_finish_28 : decode cX8_finish 28 = .ok (.lload 4, 2) := by decide +kernel
theorem dX8_finish_3 : decode cX8_finish 3 = .ok (.aload_n 0, 1) := by decide +kernel
theorem dX8_finish_30 : decode cX8_finish 30 = .ok (.ldc2_w 31, 3) := by decide +kernel
theorem dX8_finish_33 : decode cX8_finish 33 = .ok (.land, 1) := by decide +kernel
theorem dX8_finish_34 : decode cX8_finish 34 = .ok (.lastore, 1) := by decide +kernel
theorem dX8_finish_35 : decode cX8_finish 35 = .ok (.lload 4, 2) := by decide +kernel
theorem dX8_finish_37 : decode cX8_finish 37 = .ok (.bipush 30, 2) := by decide +kernel
theorem dX8_finish_39 : decode cX8_finish 39 = .ok (.lshr, 1) := by decide +kernel
theorem dX8_finish_4 : decode cX8_finish 4 = .ok (.iload_n 1, 1) := by decide +kernel
theorem dX8_finish_40 : decode cX8_finish 40 = .ok (.lstore 4, 2) := by decide +kernel
theorem dX8_finish_42 : decode cX8_finish 42 = .ok (.iinc 6 1, 3) := by decide +kernel
theorem dX8_finish_45 : decode cX8_finish 45 = .ok (.goto (-32), 3) := by decide +kernel
theorem dX8_finish_48 : decode cX8_finish 48 = .ok (.aload_n 0, 1) := by decide +kernel
theorem dX8_finish_49 : decode cX8_finish 49 = .ok (.lload 4, 2) := by decide +kernel
theorem dX8_finish_5 : decode cX8_finish 5 = .ok (.iconst 3, 1) := by decide +kernel
theorem dX8_finish_51 : decode cX8_finish 51 = .ok (.putfield 19, 3) := by decide +kernel
theorem dX8_finish_54 : decode cX8_finish 54 = .ok (.aload_n 0, 1) := by decide +kernel
theorem dX8_finish_55 : decode cX8_finish 55 = .ok (.getfield 15, 3) := by decide +kernel
theorem dX8_finish_58 : decode cX8_finish 58 = .ok (.ifCond .le 39, 3) := by decide +kernel
theorem dX8_finish_6 : decode cX8_finish 6 = .ok (.iadd, 1) := by decide +kernel
theorem dX8_finish_61 : decode cX8_finish 61 = .ok (.aload_n 0, 1) := by decide +kernel
theorem dX8_finish_62 : decode cX8_finish 62 = .ok (.getfield 11, 3) := by decide +kernel
theorem dX8_finish_65 : decode cX8_finish 65 = .ok (.aload_n 0, 1) := by decide +kernel
theorem dX8_finish_66 : decode cX8_finish 66 = .ok (.getfield 15, 3) := by decide +kernel
theorem dX8_finish_69 : decode cX8_finish 69 = .ok (.iconst 1, 1) := by decide +kernel
theorem dX8_finish_7 : decode cX8_finish 7 = .ok (.putfield 15, 3) := by decide +kernel
theorem dX8_finish_70 : decode cX8_finish 70 = .ok (.isub, 1) := by decide +kernel
theorem dX8_finish_71 : decode cX8_finish 71 = .ok (.laload, 1) := by decide +kernel
theorem dX8_finish_72 : decode cX8_finish 72 = .ok (.aload_n 0, 1) := by decide +kernel
theorem dX8_finish_73 : decode cX8_finish 73 = .ok (.getfield 19, 3) := by decide +kernel
theorem dX8_finish_76 : decode cX8_finish 76 = .ok (.ldc2_w 31, 3) := by decide +kernel
theorem dX8_finish_79 : decode cX8_finish 79 = .ok (.land, 1) := by decide +kernel
theorem dX8_finish_80 : decode cX8_finish 80 = .ok (.lcmp, 1) := by decide +kernel
theorem dX8_finish_81 : decode cX8_finish 81 = .ok (.ifCond .ne 16, 3) := by decide +kernel
theorem dX8_finish_84 : decode cX8_finish 84 = .ok (.aload_n 0, 1) := by decide +kernel
theorem dX8_finish_85 : decode cX8_finish 85 = .ok (.dup, 1) := by decide +kernel
theorem dX8_finish_86 : decode cX8_finish 86 = .ok (.getfield 15, 3) := by decide +kernel
theorem dX8_finish_89 : decode cX8_finish 89 = .ok (.iconst 1, 1) := by decide +kernel
theorem dX8_finish_90 : decode cX8_finish 90 = .ok (.isub, 1) := by decide +kernel
theorem dX8_finish_91 : decode cX8_finish 91 = .ok (.putfield 15, 3) := by decide +kernel
theorem dX8_finish_94 : decode cX8_finish 94 = .ok (.goto (-40), 3) := by decide +kernel
theorem dX8_finish_97 : decode cX8_finish 97 = .ok (.return_, 1) := by decide +kernel
theorem dX8_isAtLeast_0 : decode cX8_isAtLeast 0 = .ok (.aload_n 1, 1) := by decide +kernel
theorem dX8_isAtLeast_1 : decode cX8_isAtLeast 1 = .ok (.getfield 15, 3) := by decide +kernel
theorem dX8_isAtLeast_11 : decode cX8_isAtLeast 11 = .ok (.iload_n 3, 1) := by decide +kernel
theorem dX8_isAtLeast_12 : decode cX8_isAtLeast 12 = .ok (.if_icmp .eq 17, 3) := by decide +kernel
theorem dX8_isAtLeast_15 : decode cX8_isAtLeast 15 = .ok (.aload_n 0, 1) := by decide +kernel
theorem dX8_isAtLeast_16 : decode cX8_isAtLeast 16 = .ok (.getfield 15, 3) := by decide +kernel
theorem dX8_isAtLeast_19 : decode cX8_isAtLeast 19 = .ok (.iload_n 3, 1) := by decide +kernel
theorem dX8_isAtLeast_20 : decode cX8_isAtLeast 20 = .ok (.if_icmp .le 7, 3) := by decide +kernel
theorem dX8_isAtLeast_23 : decode cX8_isAtLeast 23 = .ok (.iconst 1, 1) := by decide +kernel
theorem dX8_isAtLeast_24 : decode cX8_isAtLeast 24 = .ok (.goto 4, 3) := by decide +kernel
theorem dX8_isAtLeast_27 : decode cX8_isAtLeast 27 = .ok (.iconst 0, 1) := by decide +kernel
theorem dX8_isAtLeast_28 : decode cX8_isAtLeast 28 = .ok (.ireturn, 1) := by decide +kernel
theorem dX8_isAtLeast_29 : decode cX8_isAtLeast 29 = .ok (.aload_n 0, 1) := by decide +kernel
theorem dX8_isAtLeast_30 : decode cX8_isAtLeast 30 = .ok (.getfield 15, 3) := by decide +kernel
theorem dX8_isAtLeast_33 : decode cX8_isAtLeast 33 = .ok (.iconst 1, 1) := by decide +kernel
theorem dX8_isAtLeast_34 : decode cX8_isAtLeast 34 = .ok (.isub, 1) := by decide +kernel
theorem dX8_isAtLeast_35 : decode cX8_isAtLeast 35 = .ok (.istore 4, 2) := by decide +kernel
theorem dX8_isAtLeast_37 : decode cX8_isAtLeast 37 = .ok (.iload 4, 2) := by decide +kernel
theorem dX8_isAtLeast_39 : decode cX8_isAtLeast 39 = .ok (.iload_n 2, 1) := by decide +kernel
theorem dX8_isAtLeast_4 : decode cX8_isAtLeast 4 = .ok (.iload_n 2, 1) := by decide +kernel
theorem dX8_isAtLeast_40 : decode cX8_isAtLeast 40 = .ok (.if_icmp .lt 51, 3) := by decide +kernel
theorem dX8_isAtLeast_43 : decode cX8_isAtLeast 43 = .ok (.aload_n 0, 1) := by decide +kernel
theorem dX8_isAtLeast_44 : decode cX8_isAtLeast 44 = .ok (.iload 4, 2) := by decide +kernel
theorem dX8_isAtLeast_46 : decode cX8_isAtLeast 46 = .ok (.invokevirtual 43, 3) := by decide +kernel
theorem dX8_isAtLeast_49 : decode cX8_isAtLeast 49 = .ok (.aload_n 1, 1) := by decide +kernel
theorem dX8_isAtLeast_5 : decode cX8_isAtLeast 5 = .ok (.iadd, 1) := by decide +kernel
theorem dX8_isAtLeast_50 : decode cX8_isAtLeast 50 = .ok (.iload 4, 2) := by decide +kernel
theorem dX8_isAtLeast_52 : decode cX8_isAtLeast 52 = .ok (.iload_n 2, 1) := by decide +kernel
theorem dX8_isAtLeast_53 : decode cX8_isAtLeast 53 = .ok (.isub, 1) := by decide +kernel
theorem dX8_isAtLeast_54 : decode cX8_isAtLeast 54 = .ok (.invokevirtual 43, 3) := by decide +kernel
theorem dX8_isAtLeast_57 : decode cX8_isAtLeast 57 = .ok (.lcmp, 1) := by decide +kernel
theorem dX8_isAtLeast_58 : decode cX8_isAtLeast 58 = .ok (.ifCond .eq 27, 3) := by decide +kernel
theorem dX8_isAtLeast_6 : decode cX8_isAtLeast 6 = .ok (.istore_n 3, 1) := by decide +kernel
theorem dX8_isAtLeast_61 : decode cX8_isAtLeast 61 = .ok (.aload_n 0, 1) := by decide +kernel
theorem dX8_isAtLeast_62 : decode cX8_isAtLeast 62 = .ok (.iload 4, 2) := by decide +kernel
theorem dX8_isAtLeast_64 : decode cX8_isAtLeast 64 = .ok (.invokevirtual 43, 3) := by decide +kernel
theorem dX8_isAtLeast_67 : decode cX8_isAtLeast 67 = .ok (.aload_n 1, 1) := by decide +kernel
theorem dX8_isAtLeast_68 : decode cX8_isAtLeast 68 = .ok (.iload 4, 2) := by decide +kernel
theorem dX8_isAtLeast_7 : decode cX8_isAtLeast 7 = .ok (.aload_n 0, 1) := by decide +kernel
theorem dX8_isAtLeast_70 : decode cX8_isAtLeast 70 = .ok (.iload_n 2, 1) := by decide +kernel
theorem dX8_isAtLeast_71 : decode cX8_isAtLeast 71 = .ok (.isub, 1) := by decide +kernel
theorem dX8_isAtLeast_72 : decode cX8_isAtLeast 72 = .ok (.invokevirtual 43, 3) := by decide +kernel
theorem dX8_isAtLeast_75 : decode cX8_isAtLeast 75 = .ok (.lcmp, 1) := by decide +kernel
theorem dX8_isAtLeast_76 : decode cX8_isAtLeast 76 = .ok (.ifCond .le 7, 3) := by decide +kernel
theorem dX8_isAtLeast_79 : decode cX8_isAtLeast 79 = .ok (.iconst 1, 1) := by decide +kernel
theorem dX8_isAtLeast_8 : decode cX8_isAtLeast 8 = .ok (.getfield 15, 3) := by decide +kernel
theorem dX8_isAtLeast_80 : decode cX8_isAtLeast 80 = .ok (.goto 4, 3) := by decide +kernel
theorem dX8_isAtLeast_83 : decode cX8_isAtLeast 83 = .ok (.iconst 0, 1) := by decide +kernel
theorem dX8_isAtLeast_84 : decode cX8_isAtLeast 84 = .ok (.ireturn, 1) := by decide +kernel
theorem dX8_isAtLeast_85 : decode cX8_isAtLeast 85 = .ok (.iinc 4 (-1), 3) := by decide +kernel
theorem dX8_isAtLeast_88 : decode cX8_isAtLeast 88 = .ok (.goto (-51), 3) := by decide +kernel
theorem dX8_isAtLeast_91 : decode cX8_isAtLeast 91 = .ok (.iconst 1, 1) := by decide +kernel
theorem dX8_isAtLeast_92 : decode cX8_isAtLeast 92 = .ok (.ireturn, 1) := by decide +kernel
theorem dX8_limb_0 : decode cX8_limb 0 = .ok (.iload_n 1, 1) := by decide +kernel
theorem dX8_limb_1 : decode cX8_limb 1 = .ok (.ifCond .lt 20, 3) := by decide +kernel
theorem dX8_limb_12 : decode cX8_limb 12 = .ok (.aload_n 0, 1) := by decide +kernel
theorem dX8_limb_13 : decode cX8_limb 13 = .ok (.getfield 11, 3) := by decide +kernel
theorem dX8_limb_16 : decode cX8_limb 16 = .ok (.iload_n 1, 1) := by decide +kernel
theorem dX8_limb_17 : decode cX8_limb 17 = .ok (.laload, 1) := by decide +kernel
theorem dX8_limb_18 : decode cX8_limb 18 = .ok (.goto 11, 3) := by decide +kernel
theorem dX8_limb_21 : decode cX8_limb 21 = .ok (.aload_n 0, 1) := by decide +kernel
theorem dX8_limb_22 : decode cX8_limb 22 = .ok (.getfield 19, 3) := by decide +kernel
theorem dX8_limb_25 : decode cX8_limb 25 = .ok (.ldc2_w 31, 3) := by decide +kernel
theorem dX8_limb_28 : decode cX8_limb 28 = .ok (.land, 1) := by decide +kernel
theorem dX8_limb_29 : decode cX8_limb 29 = .ok (.lreturn, 1) := by decide +kernel
theorem dX8_limb_4 : decode cX8_limb 4 = .ok (.iload_n 1, 1) := by decide +kernel
theorem dX8_limb_5 : decode cX8_limb 5 = .ok (.aload_n 0, 1) := by decide +kernel
theorem dX8_limb_6 : decode cX8_limb 6 = .ok (.getfield 15, 3) := by decide +kernel
theorem dX8_limb_9 : decode cX8_limb 9 = .ok (.if_icmp .ge 12, 3) := by decide +kernel
theorem dX8_makeRoom_0 : decode cX8_makeRoom 0 = .ok (.iload_n 1, 1) := by decide +kernel
theorem dX8_makeRoom_1 : decode cX8_makeRoom 1 = .ok (.iconst 3, 1) := by decide +kernel
theorem dX8_makeRoom_2 : decode cX8_makeRoom 2 = .ok (.iadd, 1) := by decide +kernel
theorem dX8_makeRoom_25 : decode cX8_makeRoom 25 = .ok (.return_, 1) := by decide +kernel
theorem dX8_makeRoom_3 : decode cX8_makeRoom 3 = .ok (.aload_n 0, 1) := by decide +kernel
theorem dX8_makeRoom_4 : decode cX8_makeRoom 4 = .ok (.getfield 11, 3) := by decide +kernel
theorem dX8_makeRoom_7 : decode cX8_makeRoom 7 = .ok (.arraylength, 1) := by decide +kernel
theorem dX8_makeRoom_8 : decode cX8_makeRoom 8 = .ok (.if_icmp .le 17, 3) := by decide +kernel
theorem dX8_scaleOf_0 : decode cX8_scaleOf 0 = .ok (.lconst 1, 1) := by decide +kernel
theorem dX8_scaleOf_1 : decode cX8_scaleOf 1 = .ok (.lstore_n 2, 1) := by decide +kernel
theorem dX8_scaleOf_12 : decode cX8_scaleOf 12 = .ok (.lload_n 0, 1) := by decide +kernel
theorem dX8_scaleOf_13 : decode cX8_scaleOf 13 = .ok (.lload_n 2, 1) := by decide +kernel
theorem dX8_scaleOf_14 : decode cX8_scaleOf 14 = .ok (.lmul, 1) := by decide +kernel
theorem dX8_scaleOf_15 : decode cX8_scaleOf 15 = .ok (.ldc2_w 63, 3) := by decide +kernel
theorem dX8_scaleOf_18 : decode cX8_scaleOf 18 = .ok (.lmul, 1) := by decide +kernel
theorem dX8_scaleOf_19 : decode cX8_scaleOf 19 = .ok (.ldc2_w 31, 3) := by decide +kernel
theorem dX8_scaleOf_2 : decode cX8_scaleOf 2 = .ok (.iconst 1, 1) := by decide +kernel
theorem dX8_scaleOf_22 : decode cX8_scaleOf 22 = .ok (.lcmp, 1) := by decide +kernel
theorem dX8_scaleOf_23 : decode cX8_scaleOf 23 = .ok (.ifCond .gt 15, 3) := by decide +kernel
theorem dX8_scaleOf_26 : decode cX8_scaleOf 26 = .ok (.lload_n 2, 1) := by decide +kernel
theorem dX8_scaleOf_27 : decode cX8_scaleOf 27 = .ok (.ldc2_w 63, 3) := by decide +kernel
theorem dX8_scaleOf_3 : decode cX8_scaleOf 3 = .ok (.istore 4, 2) := by decide +kernel
theorem dX8_scaleOf_30 : decode cX8_scaleOf 30 = .ok (.lmul, 1) := by decide +kernel
theorem dX8_scaleOf_31 : decode cX8_scaleOf 31 = .ok (.lstore_n 2, 1) := by decide +kernel
theorem dX8_scaleOf_32 : decode cX8_scaleOf 32 = .ok (.iinc 4 1, 3) := by decide +kernel
theorem dX8_scaleOf_35 : decode cX8_scaleOf 35 = .ok (.goto (-30), 3) := by decide +kernel
theorem dX8_scaleOf_38 : decode cX8_scaleOf 38 = .ok (.lload_n 2, 1) := by decide +kernel
theorem dX8_scaleOf_39 : decode cX8_scaleOf 39 = .ok (.lreturn, 1) := by decide +kernel
theorem dX8_scaleOf_5 : decode cX8_scaleOf 5 = .ok (.iload 4, 2) := by decide +kernel
theorem dX8_scaleOf_7 : decode cX8_scaleOf 7 = .ok (.bipush 30, 2) := by decide +kernel
theorem dX8_scaleOf_9 : decode cX8_scaleOf 9 = .ok (.if_icmp .ge 29, 3) := by decide +kernel
theorem dX8_set_0 : decode cX8_set 0 = .ok (.aload_n 0, 1) := by decide +kernel
theorem dX8_set_1 : decode cX8_set 1 = .ok (.iconst 0, 1) := by decide +kernel
theorem dX8_set_2 : decode cX8_set 2 = .ok (.lload_n 1, 1) := by decide +kernel
theorem dX8_set_3 : decode cX8_set 3 = .ok (.invokevirtual 23, 3) := by decide +kernel
theorem dX8_set_6 : decode cX8_set 6 = .ok (.return_, 1) := by decide +kernel
theorem dX8_sign_0 : decode cX8_sign 0 = .ok (.aload_n 0, 1) := by decide +kernel
theorem dX8_sign_1 : decode cX8_sign 1 = .ok (.getfield 19, 3) := by decide +kernel
theorem dX8_sign_10 : decode cX8_sign 10 = .ok (.ireturn, 1) := by decide +kernel
theorem dX8_sign_11 : decode cX8_sign 11 = .ok (.aload_n 0, 1) := by decide +kernel
theorem dX8_sign_12 : decode cX8_sign 12 = .ok (.getfield 15, 3) := by decide +kernel
theorem dX8_sign_15 : decode cX8_sign 15 = .ok (.ifCond .le 7, 3) := by decide +kernel
theorem dX8_sign_18 : decode cX8_sign 18 = .ok (.iconst 1, 1) := by decide +kernel
theorem dX8_sign_19 : decode cX8_sign 19 = .ok (.goto 4, 3) := by decide +kernel
theorem dX8_sign_22 : decode cX8_sign 22 = .ok (.iconst 0, 1) := by decide +kernel
theorem dX8_sign_23 : decode cX8_sign 23 = .ok (.ireturn, 1) := by decide +kernel
theorem dX8_sign_4 : decode cX8_sign 4 = .ok (.lconst 0, 1) := by decide +kernel
theorem dX8_sign_5 : decode cX8_sign 5 = .ok (.lcmp, 1) := by decide +kernel
theorem dX8_sign_6 : decode cX8_sign 6 = .ok (.ifCond .ge 5, 3) := by decide +kernel
theorem dX8_sign_9 : decode cX8_sign 9 = .ok (.iconst (-1), 1) := by decide +kernel
theorem dX8_timesPower_0 : decode cX8_timesPower 0 = .ok (.iconst 0, 1) := by decide +kernel
theorem dX8_timesPower_1 : decode cX8_timesPower 1 = .ok (.istore 4, 2) := by decide +kernel
theorem dX8_timesPower_10 : decode cX8_timesPower 10 = .ok (.lload_n 1, 1) := by decide +kernel
theorem dX8_timesPower_11 : decode cX8_timesPower 11 = .ok (.invokevirtual 33, 3) := by decide +kernel
theorem dX8_timesPower_14 : decode cX8_timesPower 14 = .ok (.iinc 4 1, 3) := by decide +kernel
theorem dX8_timesPower_17 : decode cX8_timesPower 17 = .ok (.goto (-14), 3) := by decide +kernel
theorem dX8_timesPower_20 : decode cX8_timesPower 20 = .ok (.return_, 1) := by decide +kernel
theorem dX8_timesPower_3 : decode cX8_timesPower 3 = .ok (.iload 4, 2) := by decide +kernel
theorem dX8_timesPower_5 : decode cX8_timesPower 5 = .ok (.iload_n 3, 1) := by decide +kernel
theorem dX8_timesPower_6 : decode cX8_timesPower 6 = .ok (.if_icmp .ge 14, 3) := by decide +kernel
theorem dX8_timesPower_9 : decode cX8_timesPower 9 = .ok (.aload_n 0, 1) := by decide +kernel
theorem dX8_times_0 : decode cX8_times 0 = .ok (.aload_n 0, 1) := by decide +kernel
theorem dX8_times_1 : decode cX8_times 1 = .ok (.aload_n 0, 1) := by decide +kernel
theorem dX8_times_10 : decode cX8_times 10 = .ok (.iconst 0, 1) := by decide +kernel
theorem dX8_times_11 : decode cX8_times 11 = .ok (.istore 5, 2) := by decide +kernel
theorem dX8_times_13 : decode cX8_times 13 = .ok (.iload 5, 2) := by decide +kernel
theorem dX8_times_15 : decode cX8_times 15 = .ok (.aload_n 0, 1) := by decide +kernel
theorem dX8_times_16 : decode cX8_times 16 = .ok (.getfield 15, 3) := by decide +kernel
theorem dX8_times_19 : decode cX8_times 19 = .ok (.if_icmp .ge 38, 3) := by decide +kernel
theorem dX8_times_2 : decode cX8_times 2 = .ok (.getfield 15, 3) := by decide +kernel
theorem dX8_times_22 : decode cX8_times 22 = .ok (.lload_n 3, 1) := by decide +kernel
theorem dX8_times_23 : decode cX8_times 23 = .ok (.aload_n 0, 1) := by decide +kernel
theorem dX8_times_24 : decode cX8_times 24 = .ok (.getfield 11, 3) := by decide +kernel
theorem dX8_times_27 : decode cX8_times 27 = .ok (.iload 5, 2) := by decide +kernel
theorem dX8_times_29 : decode cX8_times 29 = .ok (.laload, 1) := by decide +kernel
theorem dX8_times_30 : decode cX8_times 30 = .ok (.lload_n 1, 1) := by decide +kernel
theorem dX8_times_31 : decode cX8_times 31 = .ok (.lmul, 1) := by decide +kernel
theorem dX8_times_32 : decode cX8_times 32 = .ok (.ladd, 1) := by decide +kernel
theorem dX8_times_33 : decode cX8_times 33 = .ok (.lstore_n 3, 1) := by decide +kernel
theorem dX8_times_34 : decode cX8_times 34 = .ok (.aload_n 0, 1) := by decide +kernel
theorem dX8_times_35 : decode cX8_times 35 = .ok (.getfield 11, 3) := by decide +kernel
theorem dX8_times_38 : decode cX8_times 38 = .ok (.iload 5, 2) := by decide +kernel
theorem dX8_times_40 : decode cX8_times 40 = .ok (.lload_n 3, 1) := by decide +kernel
theorem dX8_times_41 : decode cX8_times 41 = .ok (.ldc2_w 31, 3) := by decide +kernel
theorem dX8_times_44 : decode cX8_times 44 = .ok (.land, 1) := by decide +kernel
theorem dX8_times_45 : decode cX8_times 45 = .ok (.lastore, 1) := by decide +kernel
theorem dX8_times_46 : decode cX8_times 46 = .ok (.lload_n 3, 1) := by decide +kernel
theorem dX8_times_47 : decode cX8_times 47 = .ok (.bipush 30, 2) := by decide +kernel
theorem dX8_times_49 : decode cX8_times 49 = .ok (.lshr, 1) := by decide +kernel
theorem dX8_times_5 : decode cX8_times 5 = .ok (.invokevirtual 27, 3) := by decide +kernel
theorem dX8_times_50 : decode cX8_times 50 = .ok (.lstore_n 3, 1) := by decide +kernel
theorem dX8_times_51 : decode cX8_times 51 = .ok (.iinc 5 1, 3) := by decide +kernel
theorem dX8_times_54 : decode cX8_times 54 = .ok (.goto (-41), 3) := by decide +kernel
theorem dX8_times_57 : decode cX8_times 57 = .ok (.aload_n 0, 1) := by decide +kernel
theorem dX8_times_58 : decode cX8_times 58 = .ok (.aload_n 0, 1) := by decide +kernel
theorem dX8_times_59 : decode cX8_times 59 = .ok (.getfield 15, 3) := by decide +kernel
theorem dX8_times_62 : decode cX8_times 62 = .ok (.aload_n 0, 1) := by decide +kernel
theorem dX8_times_63 : decode cX8_times 63 = .ok (.getfield 19, 3) := by decide +kernel
theorem dX8_times_66 : decode cX8_times 66 = .ok (.lload_n 1, 1) := by decide +kernel
theorem dX8_times_67 : decode cX8_times 67 = .ok (.lmul, 1) := by decide +kernel
theorem dX8_times_68 : decode cX8_times 68 = .ok (.lload_n 3, 1) := by decide +kernel
theorem dX8_times_69 : decode cX8_times 69 = .ok (.ladd, 1) := by decide +kernel
theorem dX8_times_70 : decode cX8_times 70 = .ok (.invokevirtual 23, 3) := by decide +kernel
theorem dX8_times_73 : decode cX8_times 73 = .ok (.return_, 1) := by decide +kernel
theorem dX8_times_8 : decode cX8_times 8 = .ok (.lconst 0, 1) := by decide +kernel
theorem dX8_times_9 : decode cX8_times 9 = .ok (.lstore_n 3, 1) := by decide +kernel
set_option maxRecDepth 20000 in
theorem ggX8_combine_X8_finish : GoodIn wsX8_combine wsX8_finish := goodIn_r _ [35, 1, 6, 8, 7, 36, 37, 38] (by decide +kernel) (by decide +kernel)
set_option maxRecDepth 20000 in
theorem gX8_combine_X8_finish : GoodIn wsX8_combine (wsV RX8 23 RX8 yX8_finish wsX8_finish) := goodIn_app (goodIn_of _ (by decide +kernel)) ggX8_combine_X8_finish
set_option maxRecDepth 20000 in
theorem ggX8_combine_X8_makeRoom : GoodIn wsX8_combine wsX8_makeRoom := goodIn_r _ [13, 6, 14, 15, 16, 17, 18, 19, 20, 21, 22, 23, 24, 25, 26, 4, 27, 28, 29, 30, 31, 36, 37, 38] (by decide +kernel) (by decide +kernel)
set_option maxRecDepth 20000 in
theorem gX8_combine_X8_makeRoom : GoodIn wsX8_combine (wsV RX8 27 RX8 yX8_makeRoom wsX8_makeRoom) := goodIn_app (goodIn_of _ (by decide +kernel)) ggX8_combine_X8_makeRoom
set_option maxRecDepth 20000 in
theorem ggX8_divide_X8_combine : GoodIn wsX8_divide wsX8_combine := goodIn_r _ [56, 1, 57, 58, 5, 59, 12, 13, 14, 23, 24, 25, 10, 26, 27, 28, 29, 30, 31, 32, 33, 34, 35, 36, 37, 38, 39, 40, 41, 42, 43, 44, 45, 46, 47, 48, 60, 61, 62] (by decide +kernel) (by decide +kernel)
set_option maxRecDepth 20000 in
theorem gX8_divide_X8_combine : GoodIn wsX8_divide (wsV RX8 59 RX8 yX8_combine wsX8_combine) := goodIn_app (goodIn_of _ (by decide +kernel)) ggX8_divide_X8_combine
set_option maxRecDepth 20000 in
theorem ggX8_divide_X8_isAtLeast : GoodIn wsX8_divide wsX8_isAtLeast := goodIn_r _ [52, 1, 7, 8, 9, 10, 11, 12, 13, 14, 60, 61, 62] (by decide +kernel) (by decide +kernel)
set_option maxRecDepth 20000 in
theorem gX8_divide_X8_isAtLeast : GoodIn wsX8_divide (wsV RX8 52 RX8 yX8_isAtLeast wsX8_isAtLeast) := goodIn_app (goodIn_of _ (by decide +kernel)) ggX8_divide_X8_isAtLeast
set_option maxRecDepth 20000 in
theorem ggX8_divide_X8_limb : GoodIn wsX8_divide wsX8_limb := goodIn_r _ [11, 1, 12, 13, 14, 60, 61, 62] (by decide +kernel) (by decide +kernel)
set_option maxRecDepth 20000 in
theorem gX8_divide_X8_limb : GoodIn wsX8_divide (wsV RX8 43 RX8 yX8_limb wsX8_limb) := goodIn_app (goodIn_of _ (by decide +kernel)) ggX8_divide_X8_limb
set_option maxRecDepth 20000 in
theorem ggX8_divide_X8_scaleOf : GoodIn wsX8_divide wsX8_scaleOf := goodIn_r _ [17, 18, 14] (by decide +kernel) (by decide +kernel)
set_option maxRecDepth 20000 in
theorem gX8_divide_X8_scaleOf : GoodIn wsX8_divide (va_wsS RX8 47 yX8_scaleOf wsX8_scaleOf) := goodIn_app (goodIn_of _ (by decide +kernel)) ggX8_divide_X8_scaleOf
set_option maxRecDepth 20000 in
theorem ggX8_divide_X8_times : GoodIn wsX8_divide wsX8_times := goodIn_r _ [22, 1, 12, 14, 13, 23, 24, 25, 10, 26, 27, 28, 29, 30, 31, 32, 33, 34, 35, 36, 37, 38, 39, 5, 40, 41, 42, 43, 44, 45, 46, 47, 48, 60, 61, 62] (by decide +kernel) (by decide +kernel)
set_option maxRecDepth 20000 in
theorem gX8_divide_X8_times : GoodIn wsX8_divide (wsV RX8 33 RX8 yX8_times wsX8_times) := goodIn_app (goodIn_of _ (by decide +kernel)) ggX8_divide_X8_times
set_option maxRecDepth 20000 in
theorem ggX8_isAtLeast_X8_limb : GoodIn wsX8_isAtLeast wsX8_limb := goodIn_r _ [6, 1, 7, 8, 9, 10, 11, 12] (by decide +kernel) (by decide +kernel)
set_option maxRecDepth 20000 in
theorem gX8_isAtLeast_X8_limb : GoodIn wsX8_isAtLeast (wsV RX8 43 RX8 yX8_limb wsX8_limb) := goodIn_app (goodIn_of _ (by decide +kernel)) ggX8_isAtLeast_X8_limb
set_option maxRecDepth 20000 in
theorem ggX8_set_X8_finish : GoodIn wsX8_set wsX8_finish := goodIn_r _ [5, 6, 7, 8, 9, 10, 11, 12] (by decide +kernel) (by decide +kernel)
set_option maxRecDepth 20000 in
theorem gX8_set_X8_finish : GoodIn wsX8_set (wsV RX8 23 RX8 yX8_finish wsX8_finish) := goodIn_app (goodIn_of _ (by decide +kernel)) ggX8_set_X8_finish
set_option maxRecDepth 20000 in
theorem ggX8_timesPower_X8_times : GoodIn wsX8_timesPower wsX8_times := goodIn_r _ [5, 6, 7, 8, 9, 10, 11, 12, 4, 13, 14, 15, 16, 17, 18, 19, 20, 21, 22, 23, 24, 25, 26, 27, 28, 29, 30, 31, 32, 33, 34, 35, 36, 37, 38, 39] (by decide +kernel) (by decide +kernel)
set_option maxRecDepth 20000 in
theorem gX8_timesPower_X8_times : GoodIn wsX8_timesPower (wsV RX8 33 RX8 yX8_times wsX8_times) := goodIn_app (goodIn_of _ (by decide +kernel)) ggX8_timesPower_X8_times
set_option maxRecDepth 20000 in
theorem ggX8_times_X8_finish : GoodIn wsX8_times wsX8_finish := goodIn_r _ [32, 1, 2, 3, 4, 33, 34, 35] (by decide +kernel) (by decide +kernel)
set_option maxRecDepth 20000 in
theorem gX8_times_X8_finish : GoodIn wsX8_times (wsV RX8 23 RX8 yX8_finish wsX8_finish) := goodIn_app (goodIn_of _ (by decide +kernel)) ggX8_times_X8_finish
set_option maxRecDepth 20000 in
theorem ggX8_times_X8_makeRoom : GoodIn wsX8_times wsX8_makeRoom := goodIn_r _ [9, 2, 10, 11, 12, 13, 14, 15, 16, 17, 18, 19, 20, 21, 22, 23, 24, 25, 26, 27, 28, 33, 34, 35] (by decide +kernel) (by decide +kernel)
set_option maxRecDepth 20000 in
theorem gX8_times_X8_makeRoom : GoodIn wsX8_times (wsV RX8 27 RX8 yX8_makeRoom wsX8_makeRoom) := goodIn_app (goodIn_of _ (by decide +kernel)) ggX8_times_X8_makeRoom
