-- printed rows that the walks use
theorem goodIn_cons {big a : List Cond} {c : Cond} (h : GoodIn big [c]) (ha : GoodIn big a) : GoodIn big (c :: a) := fun w q => (List.mem_cons.mp q).elim (fun e => h w (e ▸ List.mem_singleton_self _)) (ha w)
theorem dJ13_signum_95d88_0 : decode cJ13_signum_95d88 0 = .ok (.lload_n 0, 1) := by decide +kernel
theorem dJ13_signum_95d88_1 : decode cJ13_signum_95d88 1 = .ok (.bipush 63, 2) := by decide +kernel
theorem dJ13_signum_95d88_10 : decode cJ13_signum_95d88 10 = .ok (.l2i, 1) := by decide +kernel
theorem dJ13_signum_95d88_11 : decode cJ13_signum_95d88 11 = .ok (.ireturn, 1) := by decide +kernel
theorem dJ13_signum_95d88_3 : decode cJ13_signum_95d88 3 = .ok (.lshr, 1) := by decide +kernel
theorem dJ13_signum_95d88_4 : decode cJ13_signum_95d88 4 = .ok (.lload_n 0, 1) := by decide +kernel
theorem dJ13_signum_95d88_5 : decode cJ13_signum_95d88 5 = .ok (.lneg, 1) := by decide +kernel
theorem dJ13_signum_95d88_6 : decode cJ13_signum_95d88 6 = .ok (.bipush 63, 2) := by decide +kernel
theorem dJ13_signum_95d88_8 : decode cJ13_signum_95d88 8 = .ok (.lushr, 1) := by decide +kernel
theorem dJ13_signum_95d88_9 : decode cJ13_signum_95d88 9 = .ok (.lor, 1) := by decide +kernel
theorem dJ9_abs_067f4_0 : decode cJ9_abs_067f4 0 = .ok (.lload_n 0, 1) := by decide +kernel
theorem dJ9_abs_067f4_1 : decode cJ9_abs_067f4 1 = .ok (.lconst 0, 1) := by decide +kernel
theorem dJ9_abs_067f4_11 : decode cJ9_abs_067f4 11 = .ok (.lload_n 0, 1) := by decide +kernel
theorem dJ9_abs_067f4_12 : decode cJ9_abs_067f4 12 = .ok (.lreturn, 1) := by decide +kernel
theorem dJ9_abs_067f4_2 : decode cJ9_abs_067f4 2 = .ok (.lcmp, 1) := by decide +kernel
theorem dJ9_abs_067f4_3 : decode cJ9_abs_067f4 3 = .ok (.ifCond .ge 8, 3) := by decide +kernel
theorem dJ9_abs_067f4_6 : decode cJ9_abs_067f4 6 = .ok (.lload_n 0, 1) := by decide +kernel
theorem dJ9_abs_067f4_7 : decode cJ9_abs_067f4 7 = .ok (.lneg, 1) := by decide +kernel
theorem dJ9_abs_067f4_8 : decode cJ9_abs_067f4 8 = .ok (.goto 4, 3) := by decide +kernel
theorem dJ9_max_7cf53_0 : decode cJ9_max_7cf53 0 = .ok (.iload_n 0, 1) := by decide +kernel
theorem dJ9_max_7cf53_1 : decode cJ9_max_7cf53 1 = .ok (.iload_n 1, 1) := by decide +kernel
theorem dJ9_max_7cf53_10 : decode cJ9_max_7cf53 10 = .ok (.ireturn, 1) := by decide +kernel
theorem dJ9_max_7cf53_2 : decode cJ9_max_7cf53 2 = .ok (.if_icmp .lt 7, 3) := by decide +kernel
theorem dJ9_max_7cf53_5 : decode cJ9_max_7cf53 5 = .ok (.iload_n 0, 1) := by decide +kernel
theorem dJ9_max_7cf53_6 : decode cJ9_max_7cf53 6 = .ok (.goto 4, 3) := by decide +kernel
theorem dJ9_max_7cf53_9 : decode cJ9_max_7cf53 9 = .ok (.iload_n 1, 1) := by decide +kernel
theorem dJ9_max_f86c9_0 : decode cJ9_max_f86c9 0 = .ok (.lload_n 0, 1) := by decide +kernel
theorem dJ9_max_f86c9_1 : decode cJ9_max_f86c9 1 = .ok (.lload_n 2, 1) := by decide +kernel
theorem dJ9_max_f86c9_10 : decode cJ9_max_f86c9 10 = .ok (.lload_n 2, 1) := by decide +kernel
theorem dJ9_max_f86c9_11 : decode cJ9_max_f86c9 11 = .ok (.lreturn, 1) := by decide +kernel
theorem dJ9_max_f86c9_2 : decode cJ9_max_f86c9 2 = .ok (.lcmp, 1) := by decide +kernel
theorem dJ9_max_f86c9_3 : decode cJ9_max_f86c9 3 = .ok (.ifCond .lt 7, 3) := by decide +kernel
theorem dJ9_max_f86c9_6 : decode cJ9_max_f86c9 6 = .ok (.lload_n 0, 1) := by decide +kernel
theorem dJ9_max_f86c9_7 : decode cJ9_max_f86c9 7 = .ok (.goto 4, 3) := by decide +kernel
theorem dJ9_min_7cf53_0 : decode cJ9_min_7cf53 0 = .ok (.iload_n 0, 1) := by decide +kernel
theorem dJ9_min_7cf53_1 : decode cJ9_min_7cf53 1 = .ok (.iload_n 1, 1) := by decide +kernel
theorem dJ9_min_7cf53_10 : decode cJ9_min_7cf53 10 = .ok (.ireturn, 1) := by decide +kernel
theorem dJ9_min_7cf53_2 : decode cJ9_min_7cf53 2 = .ok (.if_icmp .gt 7, 3) := by decide +kernel
theorem dJ9_min_7cf53_5 : decode cJ9_min_7cf53 5 = .ok (.iload_n 0, 1) := by decide +kernel
theorem dJ9_min_7cf53_6 : decode cJ9_min_7cf53 6 = .ok (.goto 4, 3) := by decide +kernel
theorem dJ9_min_7cf53_9 : decode cJ9_min_7cf53 9 = .ok (.iload_n 1, 1) := by decide +kernel
theorem dJ9_min_f86c9_0 : decode cJ9_min_f86c9 0 = .ok (.lload_n 0, 1) := by decide +kernel
theorem dJ9_min_f86c9_1 : decode cJ9_min_f86c9 1 = .ok (.lload_n 2, 1) := by decide +kernel
theorem dJ9_min_f86c9_10 : decode cJ9_min_f86c9 10 = .ok (.lload_n 2, 1) := by decide +kernel
theorem dJ9_min_f86c9_11 : decode cJ9_min_f86c9 11 = .ok (.lreturn, 1) := by decide +kernel
theorem dJ9_min_f86c9_2 : decode cJ9_min_f86c9 2 = .ok (.lcmp, 1) := by decide +kernel
theorem dJ9_min_f86c9_3 : decode cJ9_min_f86c9 3 = .ok (.ifCond .gt 7, 3) := by decide +kernel
theorem dJ9_min_f86c9_6 : decode cJ9_min_f86c9 6 = .ok (.lload_n 0, 1) := by decide +kernel
theorem dJ9_min_f86c9_7 : decode cJ9_min_f86c9 7 = .ok (.goto 4, 3) := by decide +kernel
theorem dL_isRounded_0 : decode cL_isRounded 0 = .ok (.aload_n 0, 1) := by decide +kernel
theorem dL_isRounded_1 : decode cL_isRounded 1 = .ok (.invokevirtual 147, 3) := by decide +kernel
theorem dL_isRounded_10 : decode cL_isRounded 10 = .ok (.if_icmp .ge 146, 3) := by decide +kernel
theorem dL_isRounded_100 : decode cL_isRounded 100 = .ok (.goto 15, 3) := by decide +kernel
theorem dL_isRounded_103 : decode cL_isRounded 103 = .ok (.aload_n 1, 1) := by decide +kernel
theorem dL_isRounded_104 : decode cL_isRounded 104 = .ok (.sipush 401, 3) := by decide +kernel
theorem dL_isRounded_107 : decode cL_isRounded 107 = .ok (.invokestatic 13, 3) := by decide +kernel
theorem dL_isRounded_110 : decode cL_isRounded 110 = .ok (.sipush 200, 3) := by decide +kernel
theorem dL_isRounded_113 : decode cL_isRounded 113 = .ok (.isub, 1) := by decide +kernel
theorem dL_isRounded_114 : decode cL_isRounded 114 = .ok (.i2l, 1) := by decide +kernel
theorem dL_isRounded_115 : decode cL_isRounded 115 = .ok (.lstore 8, 2) := by decide +kernel
theorem dL_isRounded_117 : decode cL_isRounded 117 = .ok (.lload 8, 2) := by decide +kernel
theorem dL_isRounded_119 : decode cL_isRounded 119 = .ok (.lload 5, 2) := by decide +kernel
theorem dL_isRounded_121 : decode cL_isRounded 121 = .ok (.lmul, 1) := by decide +kernel
theorem dL_isRounded_122 : decode cL_isRounded 122 = .ok (.iload 7, 2) := by decide +kernel
theorem dL_isRounded_124 : decode cL_isRounded 124 = .ok (.i2l, 1) := by decide +kernel
theorem dL_isRounded_125 : decode cL_isRounded 125 = .ok (.iload_n 2, 1) := by decide +kernel
theorem dL_isRounded_126 : decode cL_isRounded 126 = .ok (.invokestatic 158, 3) := by decide +kernel
theorem dL_isRounded_129 : decode cL_isRounded 129 = .ok (.lstore 10, 2) := by decide +kernel
theorem dL_isRounded_13 : decode cL_isRounded 13 = .ok (.aload_n 1, 1) := by decide +kernel
theorem dL_isRounded_131 : decode cL_isRounded 131 = .ok (.aload_n 0, 1) := by decide +kernel
theorem dL_isRounded_132 : decode cL_isRounded 132 = .ok (.iconst 0, 1) := by decide +kernel
theorem dL_isRounded_133 : decode cL_isRounded 133 = .ok (.lload 8, 2) := by decide +kernel
theorem dL_isRounded_135 : decode cL_isRounded 135 = .ok (.iload 7, 2) := by decide +kernel
theorem dL_isRounded_137 : decode cL_isRounded 137 = .ok (.iload 4, 2) := by decide +kernel
theorem dL_isRounded_139 : decode cL_isRounded 139 = .ok (.invokestatic 161, 3) := by decide +kernel
theorem dL_isRounded_14 : decode cL_isRounded 14 = .ok (.bipush 7, 2) := by decide +kernel
theorem dL_isRounded_142 : decode cL_isRounded 142 = .ok (.lload 10, 2) := by decide +kernel
theorem dL_isRounded_144 : decode cL_isRounded 144 = .ok (.lcmp, 1) := by decide +kernel
theorem dL_isRounded_145 : decode cL_isRounded 145 = .ok (.ifCond .eq 5, 3) := by decide +kernel
theorem dL_isRounded_150 : decode cL_isRounded 150 = .ok (.iinc 3 1, 3) := by decide +kernel
theorem dL_isRounded_153 : decode cL_isRounded 153 = .ok (.goto (-146), 3) := by decide +kernel
theorem dL_isRounded_156 : decode cL_isRounded 156 = .ok (.iconst 1, 1) := by decide +kernel
theorem dL_isRounded_157 : decode cL_isRounded 157 = .ok (.aload_n 1, 1) := by decide +kernel
theorem dL_isRounded_158 : decode cL_isRounded 158 = .ok (.sipush 366, 3) := by decide +kernel
theorem dL_isRounded_16 : decode cL_isRounded 16 = .ok (.invokestatic 13, 3) := by decide +kernel
theorem dL_isRounded_161 : decode cL_isRounded 161 = .ok (.invokestatic 13, 3) := by decide +kernel
theorem dL_isRounded_164 : decode cL_isRounded 164 = .ok (.iadd, 1) := by decide +kernel
theorem dL_isRounded_165 : decode cL_isRounded 165 = .ok (.istore_n 3, 1) := by decide +kernel
theorem dL_isRounded_166 : decode cL_isRounded 166 = .ok (.aload_n 1, 1) := by decide +kernel
theorem dL_isRounded_167 : decode cL_isRounded 167 = .ok (.iload_n 3, 1) := by decide +kernel
theorem dL_isRounded_168 : decode cL_isRounded 168 = .ok (.iconst 1, 1) := by decide +kernel
theorem dL_isRounded_169 : decode cL_isRounded 169 = .ok (.iadd, 1) := by decide +kernel
theorem dL_isRounded_170 : decode cL_isRounded 170 = .ok (.invokestatic 13, 3) := by decide +kernel
theorem dL_isRounded_173 : decode cL_isRounded 173 = .ok (.istore 4, 2) := by decide +kernel
theorem dL_isRounded_175 : decode cL_isRounded 175 = .ok (.aload_n 1, 1) := by decide +kernel
theorem dL_isRounded_176 : decode cL_isRounded 176 = .ok (.ldc 165, 2) := by decide +kernel
theorem dL_isRounded_178 : decode cL_isRounded 178 = .ok (.invokestatic 13, 3) := by decide +kernel
theorem dL_isRounded_181 : decode cL_isRounded 181 = .ok (.i2l, 1) := by decide +kernel
theorem dL_isRounded_182 : decode cL_isRounded 182 = .ok (.lstore 5, 2) := by decide +kernel
theorem dL_isRounded_184 : decode cL_isRounded 184 = .ok (.aload_n 0, 1) := by decide +kernel
theorem dL_isRounded_185 : decode cL_isRounded 185 = .ok (.bipush 12, 2) := by decide +kernel
theorem dL_isRounded_187 : decode cL_isRounded 187 = .ok (.lload 5, 2) := by decide +kernel
theorem dL_isRounded_189 : decode cL_isRounded 189 = .ok (.iload 4, 2) := by decide +kernel
theorem dL_isRounded_19 : decode cL_isRounded 19 = .ok (.istore 4, 2) := by decide +kernel
theorem dL_isRounded_191 : decode cL_isRounded 191 = .ok (.iload_n 3, 1) := by decide +kernel
theorem dL_isRounded_192 : decode cL_isRounded 192 = .ok (.invokestatic 161, 3) := by decide +kernel
theorem dL_isRounded_195 : decode cL_isRounded 195 = .ok (.lload 5, 2) := by decide +kernel
theorem dL_isRounded_197 : decode cL_isRounded 197 = .ok (.iload 4, 2) := by decide +kernel
theorem dL_isRounded_199 : decode cL_isRounded 199 = .ok (.i2l, 1) := by decide +kernel
theorem dL_isRounded_200 : decode cL_isRounded 200 = .ok (.lmul, 1) := by decide +kernel
theorem dL_isRounded_201 : decode cL_isRounded 201 = .ok (.iload_n 3, 1) := by decide +kernel
theorem dL_isRounded_202 : decode cL_isRounded 202 = .ok (.i2l, 1) := by decide +kernel
theorem dL_isRounded_203 : decode cL_isRounded 203 = .ok (.iload_n 2, 1) := by decide +kernel
theorem dL_isRounded_204 : decode cL_isRounded 204 = .ok (.invokestatic 158, 3) := by decide +kernel
theorem dL_isRounded_207 : decode cL_isRounded 207 = .ok (.lcmp, 1) := by decide +kernel
theorem dL_isRounded_208 : decode cL_isRounded 208 = .ok (.ifCond .ne 7, 3) := by decide +kernel
theorem dL_isRounded_21 : decode cL_isRounded 21 = .ok (.lconst 1, 1) := by decide +kernel
theorem dL_isRounded_211 : decode cL_isRounded 211 = .ok (.iconst 1, 1) := by decide +kernel
theorem dL_isRounded_212 : decode cL_isRounded 212 = .ok (.goto 4, 3) := by decide +kernel
theorem dL_isRounded_216 : decode cL_isRounded 216 = .ok (.ireturn, 1) := by decide +kernel
theorem dL_isRounded_22 : decode cL_isRounded 22 = .ok (.lstore 5, 2) := by decide +kernel
theorem dL_isRounded_24 : decode cL_isRounded 24 = .ok (.iconst 0, 1) := by decide +kernel
theorem dL_isRounded_25 : decode cL_isRounded 25 = .ok (.istore 7, 2) := by decide +kernel
theorem dL_isRounded_27 : decode cL_isRounded 27 = .ok (.iload 7, 2) := by decide +kernel
theorem dL_isRounded_29 : decode cL_isRounded 29 = .ok (.iload 4, 2) := by decide +kernel
theorem dL_isRounded_31 : decode cL_isRounded 31 = .ok (.if_icmp .ge 17, 3) := by decide +kernel
theorem dL_isRounded_34 : decode cL_isRounded 34 = .ok (.lload 5, 2) := by decide +kernel
theorem dL_isRounded_36 : decode cL_isRounded 36 = .ok (.ldc2_w 150, 3) := by decide +kernel
theorem dL_isRounded_39 : decode cL_isRounded 39 = .ok (.lmul, 1) := by decide +kernel
theorem dL_isRounded_4 : decode cL_isRounded 4 = .ok (.istore_n 2, 1) := by decide +kernel
theorem dL_isRounded_40 : decode cL_isRounded 40 = .ok (.lstore 5, 2) := by decide +kernel
theorem dL_isRounded_42 : decode cL_isRounded 42 = .ok (.iinc 7 1, 3) := by decide +kernel
theorem dL_isRounded_45 : decode cL_isRounded 45 = .ok (.goto (-18), 3) := by decide +kernel
theorem dL_isRounded_48 : decode cL_isRounded 48 = .ok (.aload_n 1, 1) := by decide +kernel
theorem dL_isRounded_49 : decode cL_isRounded 49 = .ok (.iconst 3, 1) := by decide +kernel
theorem dL_isRounded_5 : decode cL_isRounded 5 = .ok (.iconst 0, 1) := by decide +kernel
theorem dL_isRounded_50 : decode cL_isRounded 50 = .ok (.invokestatic 13, 3) := by decide +kernel
theorem dL_isRounded_53 : decode cL_isRounded 53 = .ok (.ifCond .ne 14, 3) := by decide +kernel
theorem dL_isRounded_56 : decode cL_isRounded 56 = .ok (.iconst 1, 1) := by decide +kernel
theorem dL_isRounded_57 : decode cL_isRounded 57 = .ok (.aload_n 1, 1) := by decide +kernel
theorem dL_isRounded_58 : decode cL_isRounded 58 = .ok (.ldc 152, 2) := by decide +kernel
theorem dL_isRounded_6 : decode cL_isRounded 6 = .ok (.istore_n 3, 1) := by decide +kernel
theorem dL_isRounded_60 : decode cL_isRounded 60 = .ok (.invokestatic 13, 3) := by decide +kernel
theorem dL_isRounded_63 : decode cL_isRounded 63 = .ok (.iadd, 1) := by decide +kernel
theorem dL_isRounded_64 : decode cL_isRounded 64 = .ok (.goto 11, 3) := by decide +kernel
theorem dL_isRounded_67 : decode cL_isRounded 67 = .ok (.iconst 1, 1) := by decide +kernel
theorem dL_isRounded_68 : decode cL_isRounded 68 = .ok (.aload_n 1, 1) := by decide +kernel
theorem dL_isRounded_69 : decode cL_isRounded 69 = .ok (.bipush 16, 2) := by decide +kernel
theorem dL_isRounded_7 : decode cL_isRounded 7 = .ok (.iload_n 3, 1) := by decide +kernel
theorem dL_isRounded_71 : decode cL_isRounded 71 = .ok (.invokestatic 13, 3) := by decide +kernel
theorem dL_isRounded_74 : decode cL_isRounded 74 = .ok (.iadd, 1) := by decide +kernel
theorem dL_isRounded_75 : decode cL_isRounded 75 = .ok (.istore 7, 2) := by decide +kernel
theorem dL_isRounded_77 : decode cL_isRounded 77 = .ok (.aload_n 1, 1) := by decide +kernel
theorem dL_isRounded_78 : decode cL_isRounded 78 = .ok (.iconst 3, 1) := by decide +kernel
theorem dL_isRounded_79 : decode cL_isRounded 79 = .ok (.invokestatic 13, 3) := by decide +kernel
theorem dL_isRounded_8 : decode cL_isRounded 8 = .ok (.bipush 12, 2) := by decide +kernel
theorem dL_isRounded_82 : decode cL_isRounded 82 = .ok (.ifCond .ne 21, 3) := by decide +kernel
theorem dL_isRounded_85 : decode cL_isRounded 85 = .ok (.aload_n 1, 1) := by decide +kernel
theorem dL_isRounded_86 : decode cL_isRounded 86 = .ok (.ldc 153, 2) := by decide +kernel
theorem dL_isRounded_88 : decode cL_isRounded 88 = .ok (.invokestatic 13, 3) := by decide +kernel
theorem dL_isRounded_91 : decode cL_isRounded 91 = .ok (.i2l, 1) := by decide +kernel
theorem dL_isRounded_92 : decode cL_isRounded 92 = .ok (.ldc2_w 154, 3) := by decide +kernel
theorem dL_isRounded_95 : decode cL_isRounded 95 = .ok (.lmul, 1) := by decide +kernel
theorem dL_isRounded_96 : decode cL_isRounded 96 = .ok (.ldc2_w 156, 3) := by decide +kernel
theorem dL_isRounded_99 : decode cL_isRounded 99 = .ok (.lsub, 1) := by decide +kernel
set_option maxRecDepth 20000 in
theorem gpL_isRounded_L_asks_wsL_asks_r1 : GoodIn wsL_isRounded wsL_asks_r1 := goodIn_r _ [36, 37, 38, 39, 40, 24, 41, 42, 43, 10, 44, 45, 46, 47, 48, 12, 49, 50, 51, 52, 53, 54, 55, 56] (by decide +kernel) (by decide +kernel)
theorem gpL_isRounded_L_asks_wsL_asks_r2 : GoodIn wsL_isRounded wsL_asks_r2 := goodIn_r _ [57, 58, 59, 60, 61, 62, 63, 64, 65, 66, 67, 68, 69, 70, 71, 72, 73, 74, 75, 76, 77, 78, 79, 80] (by decide +kernel) (by decide +kernel)
theorem gpL_isRounded_L_asks_wsL_asks_r3 : GoodIn wsL_isRounded wsL_asks_r3 := goodIn_r _ [81, 82, 83, 84, 85, 86, 87, 88, 89, 90, 91, 92, 93, 94, 95, 96, 97, 98, 99, 100, 101, 102, 103, 104] (by decide +kernel) (by decide +kernel)
theorem gpL_isRounded_L_asks_wsL_asks_r4 : GoodIn wsL_isRounded wsL_asks_r4 := goodIn_r _ [105, 106, 107, 108, 109, 110, 111, 112, 113, 114, 115, 116, 117, 118, 119, 120, 121, 122, 123, 124, 125, 126, 127, 128] (by decide +kernel) (by decide +kernel)
theorem gpL_isRounded_L_asks_wsL_asks_r5 : GoodIn wsL_isRounded wsL_asks_r5 := goodIn_r _ [129, 130, 131, 132, 133, 134, 135, 136, 137, 138, 139, 140, 141, 142, 143, 144, 145, 146, 147, 148, 149, 150, 151, 152] (by decide +kernel) (by decide +kernel)
theorem gpL_isRounded_L_asks_wsL_asks_r6 : GoodIn wsL_isRounded wsL_asks_r6 := goodIn_r _ [153, 154, 155, 156, 157, 158, 159, 160, 161, 162, 163, 164, 165, 166, 167, 168, 169, 170, 171, 172, 173, 174, 175, 176] (by decide +kernel) (by decide +kernel)
theorem gpL_isRounded_L_asks_wsL_asks_r7 : GoodIn wsL_isRounded wsL_asks_r7 := goodIn_r _ [177, 178, 179, 180, 181, 182, 183, 184, 185, 186, 187, 188, 189, 190, 191, 192, 193, 194, 195, 196, 197, 198, 199, 200] (by decide +kernel) (by decide +kernel)
theorem gpL_isRounded_L_asks_wsL_asks_r8 : GoodIn wsL_isRounded wsL_asks_r8 := goodIn_r _ [201, 202, 203, 204, 205, 206, 207, 208, 209, 210, 211, 212, 213, 214, 215, 216, 217, 218, 219, 220, 221, 222, 223, 224] (by decide +kernel) (by decide +kernel)
theorem gpL_isRounded_L_asks_wsL_asks_r9 : GoodIn wsL_isRounded wsL_asks_r9 := goodIn_r _ [225, 226, 227, 228, 229, 230, 231, 232, 233, 234, 235, 236, 237, 238, 239, 240, 241, 242, 243, 244, 245, 246, 247, 248] (by decide +kernel) (by decide +kernel)
theorem gpL_isRounded_L_asks_wsL_asks_r10 : GoodIn wsL_isRounded wsL_asks_r10 := goodIn_r _ [249, 250, 251, 252, 253, 254, 255, 256, 257, 258, 259, 260, 261, 262, 263, 264, 265, 266, 267, 268, 269, 270, 271, 272] (by decide +kernel) (by decide +kernel)
theorem gpL_isRounded_L_asks_wsL_asks_r11 : GoodIn wsL_isRounded wsL_asks_r11 := goodIn_r _ [273, 274, 275, 276, 277, 278, 279, 280, 281, 282, 283, 284, 285, 286, 287, 288, 289, 290, 291, 292, 293, 294, 295, 296] (by decide +kernel) (by decide +kernel)
theorem gpL_isRounded_L_asks_wsL_asks_r12 : GoodIn wsL_isRounded wsL_asks_r12 := goodIn_r _ [297, 298, 299, 300, 301, 302, 303, 304, 305, 306, 307, 308, 309, 310, 311, 312, 313, 314, 315, 316, 317, 318, 319, 320] (by decide +kernel) (by decide +kernel)
theorem gpL_isRounded_L_asks_wsL_asks_r13 : GoodIn wsL_isRounded wsL_asks_r13 := goodIn_r _ [321, 322, 323, 324, 325, 326, 327, 328, 329, 330, 331, 332, 333, 334, 335, 336, 337, 338, 339, 340, 341, 342, 343, 344] (by decide +kernel) (by decide +kernel)
theorem gpL_isRounded_L_asks_wsL_asks_r14 : GoodIn wsL_isRounded wsL_asks_r14 := goodIn_r _ [345, 346, 347, 348, 349, 350, 351, 352, 353, 354, 355, 356, 357, 358, 359, 360, 361, 362, 363, 364, 365, 366, 367, 368] (by decide +kernel) (by decide +kernel)
theorem gpL_isRounded_L_asks_wsL_asks_r15 : GoodIn wsL_isRounded wsL_asks_r15 := goodIn_r _ [369, 370, 371, 372, 373, 374, 375, 376, 377, 378, 379, 380, 381, 382, 383, 384, 385, 386, 387, 388, 389, 390, 391, 392] (by decide +kernel) (by decide +kernel)
theorem gpL_isRounded_L_asks_wsL_asks_r16 : GoodIn wsL_isRounded wsL_asks_r16 := goodIn_r _ [393, 394, 395, 396, 397, 398, 399, 400, 401, 402, 403, 404, 405, 406, 407, 408, 409, 410, 411, 412, 413, 414, 415, 416] (by decide +kernel) (by decide +kernel)
theorem gpL_isRounded_L_asks_wsL_asks_r17 : GoodIn wsL_isRounded wsL_asks_r17 := goodIn_r _ [417, 418, 419, 420, 421, 422, 423, 424, 425, 426, 427, 428, 429, 430, 431, 432, 433, 434, 435, 436, 437, 438, 439, 440] (by decide +kernel) (by decide +kernel)
theorem gpL_isRounded_L_asks_wsL_asks_r18 : GoodIn wsL_isRounded wsL_asks_r18 := goodIn_r _ [441, 442, 443, 444, 445, 446, 447, 448, 449, 450, 451, 452, 453, 454, 455, 456, 457, 458, 459, 460, 461, 462, 463, 464] (by decide +kernel) (by decide +kernel)
theorem gpL_isRounded_L_asks_wsL_asks_r19 : GoodIn wsL_isRounded wsL_asks_r19 := goodIn_r _ [465, 466, 467, 468, 469, 470, 471, 472, 473, 474, 475, 476, 477, 478, 479, 480, 481, 482, 483, 484, 485, 486, 487, 488] (by decide +kernel) (by decide +kernel)
theorem gpL_isRounded_L_asks_wsL_asks_r20 : GoodIn wsL_isRounded wsL_asks_r20 := goodIn_r _ [489, 490, 491, 492, 493, 494, 495, 496, 497, 498, 499, 500, 501, 502, 503, 504, 505, 506, 507, 508, 509, 510, 511, 512] (by decide +kernel) (by decide +kernel)
theorem gpL_isRounded_L_asks_wsL_asks_r21 : GoodIn wsL_isRounded wsL_asks_r21 := goodIn_r _ [513, 514, 515, 516, 517, 518, 519, 520, 521, 522, 523, 524, 525, 526, 527, 528, 529, 530, 531, 532, 533, 534, 535, 536] (by decide +kernel) (by decide +kernel)
theorem gpL_isRounded_L_asks_wsL_asks_r22 : GoodIn wsL_isRounded wsL_asks_r22 := goodIn_r _ [537, 538, 539, 540, 541, 542, 543, 544, 545, 546, 547, 548, 549, 550, 551, 552, 553, 554, 555, 556, 557, 558, 559, 560] (by decide +kernel) (by decide +kernel)
theorem gpL_isRounded_L_asks_wsL_asks_r23 : GoodIn wsL_isRounded wsL_asks_r23 := goodIn_r _ [13, 561, 562, 563, 564, 565, 566, 567, 568, 569, 570, 571, 572, 573, 574, 575, 576, 577, 578, 579, 580, 581, 582, 583] (by decide +kernel) (by decide +kernel)
theorem gpL_isRounded_L_asks_wsL_asks_r24 : GoodIn wsL_isRounded wsL_asks_r24 := goodIn_r _ [584] (by decide +kernel) (by decide +kernel)
theorem gpL_isRounded_L_asks_wsX90 : GoodIn wsL_isRounded wsX90 := goodIn_r _ [585, 586, 587, 588, 589, 590, 591, 592] (by decide +kernel) (by decide +kernel)
theorem gpL_isRounded_L_asks_wsX40 : GoodIn wsL_isRounded wsX40 := goodIn_r _ [593] (by decide +kernel) (by decide +kernel)
theorem gpL_isRounded_L_asks_wsX50 : GoodIn wsL_isRounded wsX50 := goodIn_r _ [594, 595, 596] (by decide +kernel) (by decide +kernel)
theorem gpL_isRounded_L_asks_wsX10 : GoodIn wsL_isRounded wsX10 := goodIn_r _ [597, 598, 599, 600, 601, 602] (by decide +kernel) (by decide +kernel)
theorem gpL_isRounded_L_asks_wsX80 : GoodIn wsL_isRounded wsX80 := goodIn_r _ [603, 604, 605] (by decide +kernel) (by decide +kernel)
theorem gpL_isRounded_L_asks_wsX30 : GoodIn wsL_isRounded wsX30 := goodIn_r _ [606, 607, 608, 609, 610, 611, 612, 613] (by decide +kernel) (by decide +kernel)
theorem gpL_isRounded_L_asks_wsX00 : GoodIn wsL_isRounded wsX00 := goodIn_r _ [614] (by decide +kernel) (by decide +kernel)
theorem gpL_isRounded_L_asks_wsX20 : GoodIn wsL_isRounded wsX20 := goodIn_r _ [615, 616, 617, 618] (by decide +kernel) (by decide +kernel)
theorem gpL_isRounded_L_asks_wsX60 : GoodIn wsL_isRounded wsX60 := goodIn_r _ [619, 620] (by decide +kernel) (by decide +kernel)
theorem gpL_isRounded_L_asks_wsX70 : GoodIn wsL_isRounded wsX70 := goodIn_r _ [621, 622, 623] (by decide +kernel) (by decide +kernel)
theorem ggL_isRounded_L_asks : GoodIn wsL_isRounded wsL_asks := goodIn_ca (goodIn_ca (goodIn_ca (goodIn_cons (goodIn_r [_] [35] (by decide +kernel) (by decide +kernel)) (goodIn_app (goodIn_app (goodIn_app (goodIn_app (goodIn_app (goodIn_app (goodIn_app (goodIn_app (goodIn_app (goodIn_app (goodIn_app gpL_isRounded_L_asks_wsL_asks_r1 (goodIn_app gpL_isRounded_L_asks_wsL_asks_r2 (goodIn_app gpL_isRounded_L_asks_wsL_asks_r3 (goodIn_app gpL_isRounded_L_asks_wsL_asks_r4 (goodIn_app gpL_isRounded_L_asks_wsL_asks_r5 (goodIn_app gpL_isRounded_L_asks_wsL_asks_r6 (goodIn_app gpL_isRounded_L_asks_wsL_asks_r7 (goodIn_app gpL_isRounded_L_asks_wsL_asks_r8 (goodIn_app gpL_isRounded_L_asks_wsL_asks_r9 (goodIn_app gpL_isRounded_L_asks_wsL_asks_r10 (goodIn_app gpL_isRounded_L_asks_wsL_asks_r11 (goodIn_app gpL_isRounded_L_asks_wsL_asks_r12 (goodIn_app gpL_isRounded_L_asks_wsL_asks_r13 (goodIn_app gpL_isRounded_L_asks_wsL_asks_r14 (goodIn_app gpL_isRounded_L_asks_wsL_asks_r15 (goodIn_app gpL_isRounded_L_asks_wsL_asks_r16 (goodIn_app gpL_isRounded_L_asks_wsL_asks_r17 (goodIn_app gpL_isRounded_L_asks_wsL_asks_r18 (goodIn_app gpL_isRounded_L_asks_wsL_asks_r19 (goodIn_app gpL_isRounded_L_asks_wsL_asks_r20 (goodIn_app gpL_isRounded_L_asks_wsL_asks_r21 (goodIn_app gpL_isRounded_L_asks_wsL_asks_r22 (goodIn_app gpL_isRounded_L_asks_wsL_asks_r23 (gpL_isRounded_L_asks_wsL_asks_r24)))))))))))))))))))))))) gpL_isRounded_L_asks_wsX90) gpL_isRounded_L_asks_wsX40) gpL_isRounded_L_asks_wsX50) gpL_isRounded_L_asks_wsX10) gpL_isRounded_L_asks_wsX80) gpL_isRounded_L_asks_wsX30) gpL_isRounded_L_asks_wsX00) gpL_isRounded_L_asks_wsX20) gpL_isRounded_L_asks_wsX60) gpL_isRounded_L_asks_wsX70)) (goodIn_sub (fun _ h => List.mem_cons_of_mem _ (List.mem_append_left _ (List.mem_append_left _ (List.mem_append_right _ h)))) (by decide +kernel))) (goodIn_sub (fun _ h => List.mem_cons_of_mem _ (List.mem_append_left _ (List.mem_append_right _ h))) (by decide +kernel))) (goodIn_sub (fun _ h => List.mem_cons_of_mem _ (List.mem_append_right _ h)) (by decide +kernel))
set_option maxRecDepth 20000 in
theorem gL_isRounded_L_asks : GoodIn wsL_isRounded (va_wsS RL 161 yL_asks wsL_asks) := goodIn_app (goodIn_of _ (by decide +kernel)) ggL_isRounded_L_asks
set_option maxRecDepth 20000 in
theorem ggL_isRounded_L_draw : GoodIn wsL_isRounded wsL_draw := goodIn_r _ [17, 18, 19] (by decide +kernel) (by decide +kernel)
set_option maxRecDepth 20000 in
theorem gL_isRounded_L_draw : GoodIn wsL_isRounded (va_wsS RL 13 yL_draw wsL_draw) := goodIn_app (goodIn_of _ (by decide +kernel)) ggL_isRounded_L_draw
set_option maxRecDepth 20000 in
theorem ggL_isRounded_L_rounded : GoodIn wsL_isRounded wsL_rounded := goodIn_r _ [22, 23, 24, 25, 26, 27, 28, 29, 30, 31, 32] (by decide +kernel) (by decide +kernel)
set_option maxRecDepth 20000 in
theorem gL_isRounded_L_rounded : GoodIn wsL_isRounded (va_wsS RL 158 yL_rounded wsL_rounded) := goodIn_app (goodIn_of _ (by decide +kernel)) ggL_isRounded_L_rounded
set_option maxRecDepth 20000 in
theorem ggL_isRounded_X9_mode : GoodIn wsL_isRounded wsX9_mode := goodIn_r _ [11, 12, 13, 585, 586, 587, 588, 589, 590, 591, 592, 593] (by decide +kernel) (by decide +kernel)
set_option maxRecDepth 20000 in
theorem gL_isRounded_X9_mode : GoodIn wsL_isRounded (wsV RL 147 RX9 yX9_mode wsX9_mode) := goodIn_app (goodIn_of _ (by decide +kernel)) ggL_isRounded_X9_mode
