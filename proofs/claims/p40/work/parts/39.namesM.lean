-- printed rows that the walks use
theorem dJ13_compare_74951_0 : decode cJ13_compare_74951 0 = .ok (.lload_n 0, 1) := by decide +kernel
theorem dJ13_compare_74951_1 : decode cJ13_compare_74951 1 = .ok (.lload_n 2, 1) := by decide +kernel
theorem dJ13_compare_74951_10 : decode cJ13_compare_74951 10 = .ok (.lload_n 0, 1) := by decide +kernel
theorem dJ13_compare_74951_11 : decode cJ13_compare_74951 11 = .ok (.lload_n 2, 1) := by decide +kernel
theorem dJ13_compare_74951_12 : decode cJ13_compare_74951 12 = .ok (.lcmp, 1) := by decide +kernel
theorem dJ13_compare_74951_13 : decode cJ13_compare_74951 13 = .ok (.ifCond .ne 7, 3) := by decide +kernel
theorem dJ13_compare_74951_16 : decode cJ13_compare_74951 16 = .ok (.iconst 0, 1) := by decide +kernel
theorem dJ13_compare_74951_17 : decode cJ13_compare_74951 17 = .ok (.goto 4, 3) := by decide +kernel
theorem dJ13_compare_74951_2 : decode cJ13_compare_74951 2 = .ok (.lcmp, 1) := by decide +kernel
theorem dJ13_compare_74951_20 : decode cJ13_compare_74951 20 = .ok (.iconst 1, 1) := by decide +kernel
theorem dJ13_compare_74951_21 : decode cJ13_compare_74951 21 = .ok (.ireturn, 1) := by decide +kernel
theorem dJ13_compare_74951_3 : decode cJ13_compare_74951 3 = .ok (.ifCond .ge 7, 3) := by decide +kernel
theorem dJ13_compare_74951_6 : decode cJ13_compare_74951 6 = .ok (.iconst (-1), 1) := by decide +kernel
theorem dJ13_compare_74951_7 : decode cJ13_compare_74951 7 = .ok (.goto 14, 3) := by decide +kernel
theorem dJ9_floorDiv_f86c9_0 : decode cJ9_floorDiv_f86c9 0 = .ok (.lload_n 0, 1) := by decide +kernel
theorem dJ9_floorDiv_f86c9_1 : decode cJ9_floorDiv_f86c9 1 = .ok (.lload_n 2, 1) := by decide +kernel
theorem dJ9_floorDiv_f86c9_10 : decode cJ9_floorDiv_f86c9 10 = .ok (.ifCond .ge 17, 3) := by decide +kernel
theorem dJ9_floorDiv_f86c9_13 : decode cJ9_floorDiv_f86c9 13 = .ok (.lload 4, 2) := by decide +kernel
theorem dJ9_floorDiv_f86c9_15 : decode cJ9_floorDiv_f86c9 15 = .ok (.lload_n 2, 1) := by decide +kernel
theorem dJ9_floorDiv_f86c9_16 : decode cJ9_floorDiv_f86c9 16 = .ok (.lmul, 1) := by decide +kernel
theorem dJ9_floorDiv_f86c9_17 : decode cJ9_floorDiv_f86c9 17 = .ok (.lload_n 0, 1) := by decide +kernel
theorem dJ9_floorDiv_f86c9_18 : decode cJ9_floorDiv_f86c9 18 = .ok (.lcmp, 1) := by decide +kernel
theorem dJ9_floorDiv_f86c9_19 : decode cJ9_floorDiv_f86c9 19 = .ok (.ifCond .eq 8, 3) := by decide +kernel
theorem dJ9_floorDiv_f86c9_2 : decode cJ9_floorDiv_f86c9 2 = .ok (.ldiv, 1) := by decide +kernel
theorem dJ9_floorDiv_f86c9_22 : decode cJ9_floorDiv_f86c9 22 = .ok (.lload 4, 2) := by decide +kernel
theorem dJ9_floorDiv_f86c9_24 : decode cJ9_floorDiv_f86c9 24 = .ok (.lconst 1, 1) := by decide +kernel
theorem dJ9_floorDiv_f86c9_25 : decode cJ9_floorDiv_f86c9 25 = .ok (.lsub, 1) := by decide +kernel
theorem dJ9_floorDiv_f86c9_26 : decode cJ9_floorDiv_f86c9 26 = .ok (.lreturn, 1) := by decide +kernel
theorem dJ9_floorDiv_f86c9_27 : decode cJ9_floorDiv_f86c9 27 = .ok (.lload 4, 2) := by decide +kernel
theorem dJ9_floorDiv_f86c9_29 : decode cJ9_floorDiv_f86c9 29 = .ok (.lreturn, 1) := by decide +kernel
theorem dJ9_floorDiv_f86c9_3 : decode cJ9_floorDiv_f86c9 3 = .ok (.lstore 4, 2) := by decide +kernel
theorem dJ9_floorDiv_f86c9_5 : decode cJ9_floorDiv_f86c9 5 = .ok (.lload_n 0, 1) := by decide +kernel
theorem dJ9_floorDiv_f86c9_6 : decode cJ9_floorDiv_f86c9 6 = .ok (.lload_n 2, 1) := by decide +kernel
theorem dJ9_floorDiv_f86c9_7 : decode cJ9_floorDiv_f86c9 7 = .ok (.lxor, 1) := by decide +kernel
theorem dJ9_floorDiv_f86c9_8 : decode cJ9_floorDiv_f86c9 8 = .ok (.lconst 0, 1) := by decide +kernel
theorem dJ9_floorDiv_f86c9_9 : decode cJ9_floorDiv_f86c9 9 = .ok (.lcmp, 1) := by decide +kernel
theorem dL_draw_0 : decode cL_draw 0 = .ok (.aload_n 0, 1) := by decide +kernel
theorem dL_draw_1 : decode cL_draw 1 = .ok (.iconst 0, 1) := by decide +kernel
theorem dL_draw_11 : decode cL_draw 11 = .ok (.iadd, 1) := by decide +kernel
theorem dL_draw_12 : decode cL_draw 12 = .ok (.iastore, 1) := by decide +kernel
theorem dL_draw_13 : decode cL_draw 13 = .ok (.aload_n 0, 1) := by decide +kernel
theorem dL_draw_14 : decode cL_draw 14 = .ok (.iconst 1, 1) := by decide +kernel
theorem dL_draw_15 : decode cL_draw 15 = .ok (.aload_n 0, 1) := by decide +kernel
theorem dL_draw_16 : decode cL_draw 16 = .ok (.iconst 1, 1) := by decide +kernel
theorem dL_draw_17 : decode cL_draw 17 = .ok (.iaload, 1) := by decide +kernel
theorem dL_draw_18 : decode cL_draw 18 = .ok (.aload_n 0, 1) := by decide +kernel
theorem dL_draw_19 : decode cL_draw 19 = .ok (.iconst 0, 1) := by decide +kernel
theorem dL_draw_2 : decode cL_draw 2 = .ok (.aload_n 0, 1) := by decide +kernel
theorem dL_draw_20 : decode cL_draw 20 = .ok (.iaload, 1) := by decide +kernel
theorem dL_draw_21 : decode cL_draw 21 = .ok (.bipush 9, 2) := by decide +kernel
theorem dL_draw_23 : decode cL_draw 23 = .ok (.iushr, 1) := by decide +kernel
theorem dL_draw_24 : decode cL_draw 24 = .ok (.ixor, 1) := by decide +kernel
theorem dL_draw_25 : decode cL_draw 25 = .ok (.ldc 12, 2) := by decide +kernel
theorem dL_draw_27 : decode cL_draw 27 = .ok (.imul, 1) := by decide +kernel
theorem dL_draw_28 : decode cL_draw 28 = .ok (.iconst 1, 1) := by decide +kernel
theorem dL_draw_29 : decode cL_draw 29 = .ok (.iadd, 1) := by decide +kernel
theorem dL_draw_3 : decode cL_draw 3 = .ok (.iconst 0, 1) := by decide +kernel
theorem dL_draw_30 : decode cL_draw 30 = .ok (.iastore, 1) := by decide +kernel
theorem dL_draw_31 : decode cL_draw 31 = .ok (.aload_n 0, 1) := by decide +kernel
theorem dL_draw_32 : decode cL_draw 32 = .ok (.iconst 1, 1) := by decide +kernel
theorem dL_draw_33 : decode cL_draw 33 = .ok (.iaload, 1) := by decide +kernel
theorem dL_draw_34 : decode cL_draw 34 = .ok (.aload_n 0, 1) := by decide +kernel
theorem dL_draw_35 : decode cL_draw 35 = .ok (.iconst 1, 1) := by decide +kernel
theorem dL_draw_36 : decode cL_draw 36 = .ok (.iaload, 1) := by decide +kernel
theorem dL_draw_37 : decode cL_draw 37 = .ok (.bipush 16, 2) := by decide +kernel
theorem dL_draw_39 : decode cL_draw 39 = .ok (.iushr, 1) := by decide +kernel
theorem dL_draw_4 : decode cL_draw 4 = .ok (.iaload, 1) := by decide +kernel
theorem dL_draw_40 : decode cL_draw 40 = .ok (.ixor, 1) := by decide +kernel
theorem dL_draw_41 : decode cL_draw 41 = .ok (.iconst 4, 1) := by decide +kernel
theorem dL_draw_42 : decode cL_draw 42 = .ok (.iushr, 1) := by decide +kernel
theorem dL_draw_43 : decode cL_draw 43 = .ok (.iload_n 1, 1) := by decide +kernel
theorem dL_draw_44 : decode cL_draw 44 = .ok (.irem, 1) := by decide +kernel
theorem dL_draw_45 : decode cL_draw 45 = .ok (.ireturn, 1) := by decide +kernel
theorem dL_draw_5 : decode cL_draw 5 = .ok (.ldc 11, 2) := by decide +kernel
theorem dL_draw_7 : decode cL_draw 7 = .ok (.imul, 1) := by decide +kernel
theorem dL_draw_8 : decode cL_draw 8 = .ok (.sipush 12345, 3) := by decide +kernel
theorem dL_rate_0 : decode cL_rate 0 = .ok (.aload_n 0, 1) := by decide +kernel
theorem dL_rate_1 : decode cL_rate 1 = .ok (.iconst 4, 1) := by decide +kernel
theorem dL_rate_12 : decode cL_rate 12 = .ok (.aload_n 0, 1) := by decide +kernel
theorem dL_rate_13 : decode cL_rate 13 = .ok (.iconst 3, 1) := by decide +kernel
theorem dL_rate_14 : decode cL_rate 14 = .ok (.invokestatic 13, 3) := by decide +kernel
theorem dL_rate_17 : decode cL_rate 17 = .ok (.ifCond .ne 16, 3) := by decide +kernel
theorem dL_rate_2 : decode cL_rate 2 = .ok (.invokestatic 13, 3) := by decide +kernel
theorem dL_rate_20 : decode cL_rate 20 = .ok (.sipush 1000, 3) := by decide +kernel
theorem dL_rate_23 : decode cL_rate 23 = .ok (.aload_n 0, 1) := by decide +kernel
theorem dL_rate_24 : decode cL_rate 24 = .ok (.bipush 21, 2) := by decide +kernel
theorem dL_rate_26 : decode cL_rate 26 = .ok (.invokestatic 13, 3) := by decide +kernel
theorem dL_rate_29 : decode cL_rate 29 = .ok (.imul, 1) := by decide +kernel
theorem dL_rate_30 : decode cL_rate 30 = .ok (.goto 10, 3) := by decide +kernel
theorem dL_rate_33 : decode cL_rate 33 = .ok (.aload_n 0, 1) := by decide +kernel
theorem dL_rate_34 : decode cL_rate 34 = .ok (.sipush 20001, 3) := by decide +kernel
theorem dL_rate_37 : decode cL_rate 37 = .ok (.invokestatic 13, 3) := by decide +kernel
theorem dL_rate_40 : decode cL_rate 40 = .ok (.ireturn, 1) := by decide +kernel
theorem dL_rate_5 : decode cL_rate 5 = .ok (.ifCond .ne 7, 3) := by decide +kernel
theorem dL_rate_8 : decode cL_rate 8 = .ok (.iconst 0, 1) := by decide +kernel
theorem dL_rate_9 : decode cL_rate 9 = .ok (.goto 31, 3) := by decide +kernel
theorem dL_rounded_0 : decode cL_rounded 0 = .ok (.lload_n 0, 1) := by decide +kernel
theorem dL_rounded_1 : decode cL_rounded 1 = .ok (.lload_n 2, 1) := by decide +kernel
theorem dL_rounded_10 : decode cL_rounded 10 = .ok (.lload_n 2, 1) := by decide +kernel
theorem dL_rounded_101 : decode cL_rounded 101 = .ok (.lload 5, 2) := by decide +kernel
theorem dL_rounded_103 : decode cL_rounded 103 = .ok (.goto 7, 3) := by decide +kernel
theorem dL_rounded_106 : decode cL_rounded 106 = .ok (.lload 5, 2) := by decide +kernel
theorem dL_rounded_108 : decode cL_rounded 108 = .ok (.lconst 1, 1) := by decide +kernel
theorem dL_rounded_109 : decode cL_rounded 109 = .ok (.ladd, 1) := by decide +kernel
theorem dL_rounded_11 : decode cL_rounded 11 = .ok (.lmul, 1) := by decide +kernel
theorem dL_rounded_110 : decode cL_rounded 110 = .ok (.lreturn, 1) := by decide +kernel
theorem dL_rounded_111 : decode cL_rounded 111 = .ok (.iload 11, 2) := by decide +kernel
theorem dL_rounded_113 : decode cL_rounded 113 = .ok (.ifCond .eq 10, 3) := by decide +kernel
theorem dL_rounded_116 : decode cL_rounded 116 = .ok (.lload 5, 2) := by decide +kernel
theorem dL_rounded_118 : decode cL_rounded 118 = .ok (.lconst 1, 1) := by decide +kernel
theorem dL_rounded_119 : decode cL_rounded 119 = .ok (.ladd, 1) := by decide +kernel
theorem dL_rounded_12 : decode cL_rounded 12 = .ok (.lsub, 1) := by decide +kernel
theorem dL_rounded_120 : decode cL_rounded 120 = .ok (.goto 5, 3) := by decide +kernel
theorem dL_rounded_123 : decode cL_rounded 123 = .ok (.lload 5, 2) := by decide +kernel
theorem dL_rounded_125 : decode cL_rounded 125 = .ok (.lreturn, 1) := by decide +kernel
theorem dL_rounded_126 : decode cL_rounded 126 = .ok (.lload 5, 2) := by decide +kernel
theorem dL_rounded_128 : decode cL_rounded 128 = .ok (.lconst 1, 1) := by decide +kernel
theorem dL_rounded_129 : decode cL_rounded 129 = .ok (.ladd, 1) := by decide +kernel
theorem dL_rounded_13 : decode cL_rounded 13 = .ok (.lstore 7, 2) := by decide +kernel
theorem dL_rounded_130 : decode cL_rounded 130 = .ok (.lreturn, 1) := by decide +kernel
theorem dL_rounded_131 : decode cL_rounded 131 = .ok (.lload 5, 2) := by decide +kernel
theorem dL_rounded_133 : decode cL_rounded 133 = .ok (.lreturn, 1) := by decide +kernel
theorem dL_rounded_134 : decode cL_rounded 134 = .ok (.lload 9, 2) := by decide +kernel
theorem dL_rounded_136 : decode cL_rounded 136 = .ok (.lconst 0, 1) := by decide +kernel
theorem dL_rounded_137 : decode cL_rounded 137 = .ok (.lcmp, 1) := by decide +kernel
theorem dL_rounded_138 : decode cL_rounded 138 = .ok (.ifCond .gt 15, 3) := by decide +kernel
theorem dL_rounded_141 : decode cL_rounded 141 = .ok (.lload 9, 2) := by decide +kernel
theorem dL_rounded_143 : decode cL_rounded 143 = .ok (.lconst 0, 1) := by decide +kernel
theorem dL_rounded_144 : decode cL_rounded 144 = .ok (.lcmp, 1) := by decide +kernel
theorem dL_rounded_145 : decode cL_rounded 145 = .ok (.ifCond .ne 15, 3) := by decide +kernel
theorem dL_rounded_148 : decode cL_rounded 148 = .ok (.iload 11, 2) := by decide +kernel
theorem dL_rounded_15 : decode cL_rounded 15 = .ok (.lload 7, 2) := by decide +kernel
theorem dL_rounded_150 : decode cL_rounded 150 = .ok (.ifCond .ne 10, 3) := by decide +kernel
theorem dL_rounded_153 : decode cL_rounded 153 = .ok (.lload 5, 2) := by decide +kernel
theorem dL_rounded_155 : decode cL_rounded 155 = .ok (.lconst 1, 1) := by decide +kernel
theorem dL_rounded_156 : decode cL_rounded 156 = .ok (.ladd, 1) := by decide +kernel
theorem dL_rounded_157 : decode cL_rounded 157 = .ok (.goto 5, 3) := by decide +kernel
theorem dL_rounded_160 : decode cL_rounded 160 = .ok (.lload 5, 2) := by decide +kernel
theorem dL_rounded_162 : decode cL_rounded 162 = .ok (.lreturn, 1) := by decide +kernel
theorem dL_rounded_163 : decode cL_rounded 163 = .ok (.lload 9, 2) := by decide +kernel
theorem dL_rounded_165 : decode cL_rounded 165 = .ok (.lconst 0, 1) := by decide +kernel
theorem dL_rounded_166 : decode cL_rounded 166 = .ok (.lcmp, 1) := by decide +kernel
theorem dL_rounded_167 : decode cL_rounded 167 = .ok (.ifCond .gt 15, 3) := by decide +kernel
theorem dL_rounded_17 : decode cL_rounded 17 = .ok (.lconst 0, 1) := by decide +kernel
theorem dL_rounded_170 : decode cL_rounded 170 = .ok (.lload 9, 2) := by decide +kernel
theorem dL_rounded_172 : decode cL_rounded 172 = .ok (.lconst 0, 1) := by decide +kernel
theorem dL_rounded_173 : decode cL_rounded 173 = .ok (.lcmp, 1) := by decide +kernel
theorem dL_rounded_174 : decode cL_rounded 174 = .ok (.ifCond .ne 15, 3) := by decide +kernel
theorem dL_rounded_177 : decode cL_rounded 177 = .ok (.iload 11, 2) := by decide +kernel
theorem dL_rounded_179 : decode cL_rounded 179 = .ok (.ifCond .eq 10, 3) := by decide +kernel
theorem dL_rounded_18 : decode cL_rounded 18 = .ok (.lcmp, 1) := by decide +kernel
theorem dL_rounded_182 : decode cL_rounded 182 = .ok (.lload 5, 2) := by decide +kernel
theorem dL_rounded_184 : decode cL_rounded 184 = .ok (.lconst 1, 1) := by decide +kernel
theorem dL_rounded_185 : decode cL_rounded 185 = .ok (.ladd, 1) := by decide +kernel
theorem dL_rounded_186 : decode cL_rounded 186 = .ok (.goto 5, 3) := by decide +kernel
theorem dL_rounded_189 : decode cL_rounded 189 = .ok (.lload 5, 2) := by decide +kernel
theorem dL_rounded_19 : decode cL_rounded 19 = .ok (.ifCond .ne 6, 3) := by decide +kernel
theorem dL_rounded_191 : decode cL_rounded 191 = .ok (.lreturn, 1) := by decide +kernel
theorem dL_rounded_192 : decode cL_rounded 192 = .ok (.lload 9, 2) := by decide +kernel
theorem dL_rounded_194 : decode cL_rounded 194 = .ok (.lconst 0, 1) := by decide +kernel
theorem dL_rounded_195 : decode cL_rounded 195 = .ok (.lcmp, 1) := by decide +kernel
theorem dL_rounded_196 : decode cL_rounded 196 = .ok (.ifCond .gt 21, 3) := by decide +kernel
theorem dL_rounded_199 : decode cL_rounded 199 = .ok (.lload 9, 2) := by decide +kernel
theorem dL_rounded_2 : decode cL_rounded 2 = .ok (.invokestatic 133, 3) := by decide +kernel
theorem dL_rounded_201 : decode cL_rounded 201 = .ok (.lconst 0, 1) := by decide +kernel
theorem dL_rounded_202 : decode cL_rounded 202 = .ok (.lcmp, 1) := by decide +kernel
theorem dL_rounded_203 : decode cL_rounded 203 = .ok (.ifCond .ne 21, 3) := by decide +kernel
theorem dL_rounded_206 : decode cL_rounded 206 = .ok (.lload 5, 2) := by decide +kernel
theorem dL_rounded_208 : decode cL_rounded 208 = .ok (.ldc2_w 145, 3) := by decide +kernel
theorem dL_rounded_211 : decode cL_rounded 211 = .ok (.lrem, 1) := by decide +kernel
theorem dL_rounded_212 : decode cL_rounded 212 = .ok (.lconst 0, 1) := by decide +kernel
theorem dL_rounded_213 : decode cL_rounded 213 = .ok (.lcmp, 1) := by decide +kernel
theorem dL_rounded_214 : decode cL_rounded 214 = .ok (.ifCond .eq 10, 3) := by decide +kernel
theorem dL_rounded_217 : decode cL_rounded 217 = .ok (.lload 5, 2) := by decide +kernel
theorem dL_rounded_219 : decode cL_rounded 219 = .ok (.lconst 1, 1) := by decide +kernel
theorem dL_rounded_22 : decode cL_rounded 22 = .ok (.lload 5, 2) := by decide +kernel
theorem dL_rounded_220 : decode cL_rounded 220 = .ok (.ladd, 1) := by decide +kernel
theorem dL_rounded_221 : decode cL_rounded 221 = .ok (.goto 5, 3) := by decide +kernel
theorem dL_rounded_224 : decode cL_rounded 224 = .ok (.lload 5, 2) := by decide +kernel
theorem dL_rounded_226 : decode cL_rounded 226 = .ok (.lreturn, 1) := by decide +kernel
theorem dL_rounded_227 : decode cL_rounded 227 = .ok (.ldc2_w 131, 3) := by decide +kernel
theorem dL_rounded_230 : decode cL_rounded 230 = .ok (.lreturn, 1) := by decide +kernel
theorem dL_rounded_24 : decode cL_rounded 24 = .ok (.lreturn, 1) := by decide +kernel
theorem dL_rounded_25 : decode cL_rounded 25 = .ok (.lload 7, 2) := by decide +kernel
theorem dL_rounded_27 : decode cL_rounded 27 = .ok (.lload_n 2, 1) := by decide +kernel
theorem dL_rounded_28 : decode cL_rounded 28 = .ok (.lload 7, 2) := by decide +kernel
theorem dL_rounded_30 : decode cL_rounded 30 = .ok (.lsub, 1) := by decide +kernel
theorem dL_rounded_31 : decode cL_rounded 31 = .ok (.invokestatic 139, 3) := by decide +kernel
theorem dL_rounded_34 : decode cL_rounded 34 = .ok (.i2l, 1) := by decide +kernel
theorem dL_rounded_35 : decode cL_rounded 35 = .ok (.lstore 9, 2) := by decide +kernel
theorem dL_rounded_37 : decode cL_rounded 37 = .ok (.lload_n 0, 1) := by decide +kernel
theorem dL_rounded_38 : decode cL_rounded 38 = .ok (.lconst 0, 1) := by decide +kernel
theorem dL_rounded_39 : decode cL_rounded 39 = .ok (.lcmp, 1) := by decide +kernel
theorem dL_rounded_40 : decode cL_rounded 40 = .ok (.ifCond .ge 7, 3) := by decide +kernel
theorem dL_rounded_43 : decode cL_rounded 43 = .ok (.iconst 1, 1) := by decide +kernel
theorem dL_rounded_44 : decode cL_rounded 44 = .ok (.goto 4, 3) := by decide +kernel
theorem dL_rounded_47 : decode cL_rounded 47 = .ok (.iconst 0, 1) := by decide +kernel
theorem dL_rounded_48 : decode cL_rounded 48 = .ok (.istore 11, 2) := by decide +kernel
theorem dL_rounded_5 : decode cL_rounded 5 = .ok (.lstore 5, 2) := by decide +kernel
theorem dL_rounded_50 : decode cL_rounded 50 = .ok (.iload 4, 2) := by decide +kernel
theorem dL_rounded_52 : decode cL_rounded 52 = .ok (.tableswitch 175 0 6 #[44, 59, 74, 79, 82, 111, 140], 44) := by decide +kernel
theorem dL_rounded_7 : decode cL_rounded 7 = .ok (.lload_n 0, 1) := by decide +kernel
theorem dL_rounded_8 : decode cL_rounded 8 = .ok (.lload 5, 2) := by decide +kernel
theorem dL_rounded_96 : decode cL_rounded 96 = .ok (.iload 11, 2) := by decide +kernel
theorem dL_rounded_98 : decode cL_rounded 98 = .ok (.ifCond .eq 8, 3) := by decide +kernel
set_option maxRecDepth 20000 in
theorem ggL_rate_L_draw : GoodIn wsL_rate wsL_draw := goodIn_r _ [4, 5, 6] (by decide +kernel) (by decide +kernel)
set_option maxRecDepth 20000 in
theorem gL_rate_L_draw : GoodIn wsL_rate (va_wsS RL 13 yL_draw wsL_draw) := goodIn_app (goodIn_of _ (by decide +kernel)) ggL_rate_L_draw
set_option maxRecDepth 20000 in
theorem ggL_rounded_J13_compare_74951 : GoodIn wsL_rounded wsJ13_compare_74951 := goodIn_r _ [10] (by decide +kernel) (by decide +kernel)
set_option maxRecDepth 20000 in
theorem gL_rounded_J13_compare_74951 : GoodIn wsL_rounded (va_wsS RL 139 yJ13_compare_74951 wsJ13_compare_74951) := goodIn_app (goodIn_of _ (by decide +kernel)) ggL_rounded_J13_compare_74951
set_option maxRecDepth 20000 in
theorem ggL_rounded_J9_floorDiv_f86c9 : GoodIn wsL_rounded wsJ9_floorDiv_f86c9 := goodIn_r _ [6] (by decide +kernel) (by decide +kernel)
set_option maxRecDepth 20000 in
theorem gL_rounded_J9_floorDiv_f86c9 : GoodIn wsL_rounded (va_wsS RL 133 yJ9_floorDiv_f86c9 wsJ9_floorDiv_f86c9) := goodIn_app (goodIn_of _ (by decide +kernel)) ggL_rounded_J9_floorDiv_f86c9
