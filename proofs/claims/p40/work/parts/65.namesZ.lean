-- printed rows that the walks use
theorem dL_isKept_0 : decode cL_isKept 0 = .ok (.aload_n 0, 1) := by decide +kernel
theorem dL_isKept_1 : decode cL_isKept 1 = .ok (.bipush 7, 2) := by decide +kernel
theorem dL_isKept_101 : decode cL_isKept 101 = .ok (.iconst 0, 1) := by decide +kernel
theorem dL_isKept_102 : decode cL_isKept 102 = .ok (.istore 6, 2) := by decide +kernel
theorem dL_isKept_104 : decode cL_isKept 104 = .ok (.iload 6, 2) := by decide +kernel
theorem dL_isKept_106 : decode cL_isKept 106 = .ok (.ifCond .ne 50, 3) := by decide +kernel
theorem dL_isKept_109 : decode cL_isKept 109 = .ok (.aload_n 0, 1) := by decide +kernel
theorem dL_isKept_11 : decode cL_isKept 11 = .ok (.invokestatic 13, 3) := by decide +kernel
theorem dL_isKept_110 : decode cL_isKept 110 = .ok (.bipush 7, 2) := by decide +kernel
theorem dL_isKept_112 : decode cL_isKept 112 = .ok (.lconst 0, 1) := by decide +kernel
theorem dL_isKept_113 : decode cL_isKept 113 = .ok (.iconst 2, 1) := by decide +kernel
theorem dL_isKept_114 : decode cL_isKept 114 = .ok (.iconst 1, 1) := by decide +kernel
theorem dL_isKept_115 : decode cL_isKept 115 = .ok (.invokestatic 161, 3) := by decide +kernel
theorem dL_isKept_118 : decode cL_isKept 118 = .ok (.ldc2_w 131, 3) := by decide +kernel
theorem dL_isKept_121 : decode cL_isKept 121 = .ok (.lcmp, 1) := by decide +kernel
theorem dL_isKept_122 : decode cL_isKept 122 = .ok (.ifCond .ne 32, 3) := by decide +kernel
theorem dL_isKept_125 : decode cL_isKept 125 = .ok (.aload_n 0, 1) := by decide +kernel
theorem dL_isKept_126 : decode cL_isKept 126 = .ok (.invokevirtual 115, 3) := by decide +kernel
theorem dL_isKept_129 : decode cL_isKept 129 = .ok (.iload_n 3, 1) := by decide +kernel
theorem dL_isKept_130 : decode cL_isKept 130 = .ok (.if_icmp .ne 24, 3) := by decide +kernel
theorem dL_isKept_133 : decode cL_isKept 133 = .ok (.aload_n 0, 1) := by decide +kernel
theorem dL_isKept_134 : decode cL_isKept 134 = .ok (.iconst 1, 1) := by decide +kernel
theorem dL_isKept_135 : decode cL_isKept 135 = .ok (.invokevirtual 58, 3) := by decide +kernel
theorem dL_isKept_138 : decode cL_isKept 138 = .ok (.lconst 0, 1) := by decide +kernel
theorem dL_isKept_139 : decode cL_isKept 139 = .ok (.lcmp, 1) := by decide +kernel
theorem dL_isKept_14 : decode cL_isKept 14 = .ok (.iadd, 1) := by decide +kernel
theorem dL_isKept_140 : decode cL_isKept 140 = .ok (.ifCond .ne 14, 3) := by decide +kernel
theorem dL_isKept_143 : decode cL_isKept 143 = .ok (.aload_n 0, 1) := by decide +kernel
theorem dL_isKept_144 : decode cL_isKept 144 = .ok (.iconst 2, 1) := by decide +kernel
theorem dL_isKept_145 : decode cL_isKept 145 = .ok (.iconst 5, 1) := by decide +kernel
theorem dL_isKept_146 : decode cL_isKept 146 = .ok (.invokevirtual 55, 3) := by decide +kernel
theorem dL_isKept_149 : decode cL_isKept 149 = .ok (.lconst 0, 1) := by decide +kernel
theorem dL_isKept_15 : decode cL_isKept 15 = .ok (.istore_n 3, 1) := by decide +kernel
theorem dL_isKept_150 : decode cL_isKept 150 = .ok (.lcmp, 1) := by decide +kernel
theorem dL_isKept_151 : decode cL_isKept 151 = .ok (.ifCond .eq 5, 3) := by decide +kernel
theorem dL_isKept_156 : decode cL_isKept 156 = .ok (.aload_n 0, 1) := by decide +kernel
theorem dL_isKept_157 : decode cL_isKept 157 = .ok (.iconst 1, 1) := by decide +kernel
theorem dL_isKept_158 : decode cL_isKept 158 = .ok (.invokevirtual 43, 3) := by decide +kernel
theorem dL_isKept_16 : decode cL_isKept 16 = .ok (.iconst 1, 1) := by decide +kernel
theorem dL_isKept_161 : decode cL_isKept 161 = .ok (.ifCond .eq 50, 3) := by decide +kernel
theorem dL_isKept_164 : decode cL_isKept 164 = .ok (.aload_n 0, 1) := by decide +kernel
theorem dL_isKept_165 : decode cL_isKept 165 = .ok (.iconst 1, 1) := by decide +kernel
theorem dL_isKept_166 : decode cL_isKept 166 = .ok (.iconst 2, 1) := by decide +kernel
theorem dL_isKept_167 : decode cL_isKept 167 = .ok (.invokevirtual 55, 3) := by decide +kernel
theorem dL_isKept_17 : decode cL_isKept 17 = .ok (.aload_n 1, 1) := by decide +kernel
theorem dL_isKept_170 : decode cL_isKept 170 = .ok (.lconst 0, 1) := by decide +kernel
theorem dL_isKept_171 : decode cL_isKept 171 = .ok (.lcmp, 1) := by decide +kernel
theorem dL_isKept_172 : decode cL_isKept 172 = .ok (.ifCond .ne 39, 3) := by decide +kernel
theorem dL_isKept_175 : decode cL_isKept 175 = .ok (.aload_n 0, 1) := by decide +kernel
theorem dL_isKept_176 : decode cL_isKept 176 = .ok (.iload_n 3, 1) := by decide +kernel
theorem dL_isKept_177 : decode cL_isKept 177 = .ok (.iconst 2, 1) := by decide +kernel
theorem dL_isKept_178 : decode cL_isKept 178 = .ok (.invokevirtual 55, 3) := by decide +kernel
theorem dL_isKept_18 : decode cL_isKept 18 = .ok (.ldc 152, 2) := by decide +kernel
theorem dL_isKept_181 : decode cL_isKept 181 = .ok (.ldc2_w 145, 3) := by decide +kernel
theorem dL_isKept_184 : decode cL_isKept 184 = .ok (.lload 4, 2) := by decide +kernel
theorem dL_isKept_186 : decode cL_isKept 186 = .ok (.lmul, 1) := by decide +kernel
theorem dL_isKept_187 : decode cL_isKept 187 = .ok (.lcmp, 1) := by decide +kernel
theorem dL_isKept_188 : decode cL_isKept 188 = .ok (.ifCond .ne 23, 3) := by decide +kernel
theorem dL_isKept_191 : decode cL_isKept 191 = .ok (.aload_n 0, 1) := by decide +kernel
theorem dL_isKept_192 : decode cL_isKept 192 = .ok (.iconst 1, 1) := by decide +kernel
theorem dL_isKept_193 : decode cL_isKept 193 = .ok (.invokevirtual 43, 3) := by decide +kernel
theorem dL_isKept_196 : decode cL_isKept 196 = .ok (.ifCond .ne 15, 3) := by decide +kernel
theorem dL_isKept_199 : decode cL_isKept 199 = .ok (.aload_n 0, 1) := by decide +kernel
theorem dL_isKept_20 : decode cL_isKept 20 = .ok (.invokestatic 13, 3) := by decide +kernel
theorem dL_isKept_200 : decode cL_isKept 200 = .ok (.iconst 1, 1) := by decide +kernel
theorem dL_isKept_201 : decode cL_isKept 201 = .ok (.iconst 2, 1) := by decide +kernel
theorem dL_isKept_202 : decode cL_isKept 202 = .ok (.invokevirtual 55, 3) := by decide +kernel
theorem dL_isKept_205 : decode cL_isKept 205 = .ok (.lload 4, 2) := by decide +kernel
theorem dL_isKept_207 : decode cL_isKept 207 = .ok (.lcmp, 1) := by decide +kernel
theorem dL_isKept_208 : decode cL_isKept 208 = .ok (.ifCond .eq 5, 3) := by decide +kernel
theorem dL_isKept_213 : decode cL_isKept 213 = .ok (.aload_n 0, 1) := by decide +kernel
theorem dL_isKept_214 : decode cL_isKept 214 = .ok (.iload_n 2, 1) := by decide +kernel
theorem dL_isKept_215 : decode cL_isKept 215 = .ok (.invokevirtual 105, 3) := by decide +kernel
theorem dL_isKept_218 : decode cL_isKept 218 = .ok (.istore_n 2, 1) := by decide +kernel
theorem dL_isKept_219 : decode cL_isKept 219 = .ok (.aload_n 0, 1) := by decide +kernel
theorem dL_isKept_220 : decode cL_isKept 220 = .ok (.iconst 1, 1) := by decide +kernel
theorem dL_isKept_221 : decode cL_isKept 221 = .ok (.lload 4, 2) := by decide +kernel
theorem dL_isKept_223 : decode cL_isKept 223 = .ok (.invokevirtual 51, 3) := by decide +kernel
theorem dL_isKept_226 : decode cL_isKept 226 = .ok (.iload_n 3, 1) := by decide +kernel
theorem dL_isKept_227 : decode cL_isKept 227 = .ok (.iconst 1, 1) := by decide +kernel
theorem dL_isKept_228 : decode cL_isKept 228 = .ok (.isub, 1) := by decide +kernel
theorem dL_isKept_229 : decode cL_isKept 229 = .ok (.if_icmp .ne 37, 3) := by decide +kernel
theorem dL_isKept_23 : decode cL_isKept 23 = .ok (.iadd, 1) := by decide +kernel
theorem dL_isKept_232 : decode cL_isKept 232 = .ok (.aload_n 0, 1) := by decide +kernel
theorem dL_isKept_233 : decode cL_isKept 233 = .ok (.iconst 3, 1) := by decide +kernel
theorem dL_isKept_234 : decode cL_isKept 234 = .ok (.invokevirtual 58, 3) := by decide +kernel
theorem dL_isKept_237 : decode cL_isKept 237 = .ok (.lload 4, 2) := by decide +kernel
theorem dL_isKept_239 : decode cL_isKept 239 = .ok (.iload_n 3, 1) := by decide +kernel
theorem dL_isKept_24 : decode cL_isKept 24 = .ok (.i2l, 1) := by decide +kernel
theorem dL_isKept_240 : decode cL_isKept 240 = .ok (.i2l, 1) := by decide +kernel
theorem dL_isKept_241 : decode cL_isKept 241 = .ok (.lmul, 1) := by decide +kernel
theorem dL_isKept_242 : decode cL_isKept 242 = .ok (.lcmp, 1) := by decide +kernel
theorem dL_isKept_243 : decode cL_isKept 243 = .ok (.ifCond .ne 23, 3) := by decide +kernel
theorem dL_isKept_246 : decode cL_isKept 246 = .ok (.aload_n 0, 1) := by decide +kernel
theorem dL_isKept_247 : decode cL_isKept 247 = .ok (.iconst 1, 1) := by decide +kernel
theorem dL_isKept_248 : decode cL_isKept 248 = .ok (.iconst 2, 1) := by decide +kernel
theorem dL_isKept_249 : decode cL_isKept 249 = .ok (.invokevirtual 55, 3) := by decide +kernel
theorem dL_isKept_25 : decode cL_isKept 25 = .ok (.lstore 4, 2) := by decide +kernel
theorem dL_isKept_252 : decode cL_isKept 252 = .ok (.ldc2_w 145, 3) := by decide +kernel
theorem dL_isKept_255 : decode cL_isKept 255 = .ok (.lload 4, 2) := by decide +kernel
theorem dL_isKept_257 : decode cL_isKept 257 = .ok (.lmul, 1) := by decide +kernel
theorem dL_isKept_258 : decode cL_isKept 258 = .ok (.lcmp, 1) := by decide +kernel
theorem dL_isKept_259 : decode cL_isKept 259 = .ok (.ifCond .ne 7, 3) := by decide +kernel
theorem dL_isKept_262 : decode cL_isKept 262 = .ok (.iconst 1, 1) := by decide +kernel
theorem dL_isKept_263 : decode cL_isKept 263 = .ok (.goto 4, 3) := by decide +kernel
theorem dL_isKept_267 : decode cL_isKept 267 = .ok (.ireturn, 1) := by decide +kernel
theorem dL_isKept_27 : decode cL_isKept 27 = .ok (.aload_n 0, 1) := by decide +kernel
theorem dL_isKept_28 : decode cL_isKept 28 = .ok (.lload 4, 2) := by decide +kernel
theorem dL_isKept_3 : decode cL_isKept 3 = .ok (.invokevirtual 105, 3) := by decide +kernel
theorem dL_isKept_30 : decode cL_isKept 30 = .ok (.iload_n 3, 1) := by decide +kernel
theorem dL_isKept_31 : decode cL_isKept 31 = .ok (.i2l, 1) := by decide +kernel
theorem dL_isKept_32 : decode cL_isKept 32 = .ok (.lmul, 1) := by decide +kernel
theorem dL_isKept_33 : decode cL_isKept 33 = .ok (.iconst 0, 1) := by decide +kernel
theorem dL_isKept_34 : decode cL_isKept 34 = .ok (.iload_n 3, 1) := by decide +kernel
theorem dL_isKept_35 : decode cL_isKept 35 = .ok (.invokevirtual 39, 3) := by decide +kernel
theorem dL_isKept_38 : decode cL_isKept 38 = .ok (.lload 4, 2) := by decide +kernel
theorem dL_isKept_40 : decode cL_isKept 40 = .ok (.lcmp, 1) := by decide +kernel
theorem dL_isKept_41 : decode cL_isKept 41 = .ok (.ifCond .ne 38, 3) := by decide +kernel
theorem dL_isKept_44 : decode cL_isKept 44 = .ok (.aload_n 0, 1) := by decide +kernel
theorem dL_isKept_45 : decode cL_isKept 45 = .ok (.iconst 5, 1) := by decide +kernel
theorem dL_isKept_46 : decode cL_isKept 46 = .ok (.lload 4, 2) := by decide +kernel
theorem dL_isKept_48 : decode cL_isKept 48 = .ok (.iload_n 3, 1) := by decide +kernel
theorem dL_isKept_49 : decode cL_isKept 49 = .ok (.i2l, 1) := by decide +kernel
theorem dL_isKept_50 : decode cL_isKept 50 = .ok (.lmul, 1) := by decide +kernel
theorem dL_isKept_51 : decode cL_isKept 51 = .ok (.lconst 1, 1) := by decide +kernel
theorem dL_isKept_52 : decode cL_isKept 52 = .ok (.ladd, 1) := by decide +kernel
theorem dL_isKept_53 : decode cL_isKept 53 = .ok (.iconst 0, 1) := by decide +kernel
theorem dL_isKept_54 : decode cL_isKept 54 = .ok (.iload_n 3, 1) := by decide +kernel
theorem dL_isKept_55 : decode cL_isKept 55 = .ok (.invokestatic 161, 3) := by decide +kernel
theorem dL_isKept_58 : decode cL_isKept 58 = .ok (.ldc2_w 131, 3) := by decide +kernel
theorem dL_isKept_6 : decode cL_isKept 6 = .ok (.istore_n 2, 1) := by decide +kernel
theorem dL_isKept_61 : decode cL_isKept 61 = .ok (.lcmp, 1) := by decide +kernel
theorem dL_isKept_62 : decode cL_isKept 62 = .ok (.ifCond .ne 17, 3) := by decide +kernel
theorem dL_isKept_65 : decode cL_isKept 65 = .ok (.aload_n 0, 1) := by decide +kernel
theorem dL_isKept_66 : decode cL_isKept 66 = .ok (.iconst 3, 1) := by decide +kernel
theorem dL_isKept_67 : decode cL_isKept 67 = .ok (.invokevirtual 58, 3) := by decide +kernel
theorem dL_isKept_7 : decode cL_isKept 7 = .ok (.iconst 3, 1) := by decide +kernel
theorem dL_isKept_70 : decode cL_isKept 70 = .ok (.lload 4, 2) := by decide +kernel
theorem dL_isKept_72 : decode cL_isKept 72 = .ok (.iload_n 3, 1) := by decide +kernel
theorem dL_isKept_73 : decode cL_isKept 73 = .ok (.i2l, 1) := by decide +kernel
theorem dL_isKept_74 : decode cL_isKept 74 = .ok (.lmul, 1) := by decide +kernel
theorem dL_isKept_75 : decode cL_isKept 75 = .ok (.lcmp, 1) := by decide +kernel
theorem dL_isKept_76 : decode cL_isKept 76 = .ok (.ifCond .eq 5, 3) := by decide +kernel
theorem dL_isKept_8 : decode cL_isKept 8 = .ok (.aload_n 1, 1) := by decide +kernel
theorem dL_isKept_81 : decode cL_isKept 81 = .ok (.lload 4, 2) := by decide +kernel
theorem dL_isKept_83 : decode cL_isKept 83 = .ok (.iload_n 3, 1) := by decide +kernel
theorem dL_isKept_84 : decode cL_isKept 84 = .ok (.iconst 1, 1) := by decide +kernel
theorem dL_isKept_85 : decode cL_isKept 85 = .ok (.isub, 1) := by decide +kernel
theorem dL_isKept_86 : decode cL_isKept 86 = .ok (.i2l, 1) := by decide +kernel
theorem dL_isKept_87 : decode cL_isKept 87 = .ok (.lmul, 1) := by decide +kernel
theorem dL_isKept_88 : decode cL_isKept 88 = .ok (.ldc2_w 177, 3) := by decide +kernel
theorem dL_isKept_9 : decode cL_isKept 9 = .ok (.bipush 10, 2) := by decide +kernel
theorem dL_isKept_91 : decode cL_isKept 91 = .ok (.lrem, 1) := by decide +kernel
theorem dL_isKept_92 : decode cL_isKept 92 = .ok (.lconst 0, 1) := by decide +kernel
theorem dL_isKept_93 : decode cL_isKept 93 = .ok (.lcmp, 1) := by decide +kernel
theorem dL_isKept_94 : decode cL_isKept 94 = .ok (.ifCond .ne 7, 3) := by decide +kernel
theorem dL_isKept_97 : decode cL_isKept 97 = .ok (.iconst 1, 1) := by decide +kernel
theorem dL_isKept_98 : decode cL_isKept 98 = .ok (.goto 4, 3) := by decide +kernel
set_option maxRecDepth 20000 in
theorem gpL_isKept_L_asks_wsL_asks_r1 : GoodIn wsL_isKept wsL_asks_r1 := goodIn_r _ [218, 219, 220, 221, 222, 2, 223, 224, 225, 8, 226, 227, 228, 229, 230, 11, 13, 14, 15, 16, 17, 18, 19, 20] (by decide +kernel) (by decide +kernel)
theorem gpL_isKept_L_asks_wsL_asks_r2 : GoodIn wsL_isKept wsL_asks_r2 := goodIn_r _ [231, 194, 195, 148, 196, 197, 198, 74, 199, 177, 178, 179, 180, 181, 182, 183, 184, 185, 186, 187, 188, 189, 190, 191] (by decide +kernel) (by decide +kernel)
theorem gpL_isKept_L_asks_wsL_asks_r3 : GoodIn wsL_isKept wsL_asks_r3 := goodIn_r _ [192, 151, 232, 233, 234, 235, 236, 237, 31, 238, 239, 240, 241, 242, 243, 244, 245, 246, 247, 248, 249, 250, 251, 252] (by decide +kernel) (by decide +kernel)
theorem gpL_isKept_L_asks_wsL_asks_r4 : GoodIn wsL_isKept wsL_asks_r4 := goodIn_r _ [253, 254, 255, 256, 257, 258, 259, 260, 261, 262, 263, 264, 265, 35, 36, 37, 38, 266, 267, 268, 269, 270, 133, 134] (by decide +kernel) (by decide +kernel)
theorem gpL_isKept_L_asks_wsL_asks_r5 : GoodIn wsL_isKept wsL_asks_r5 := goodIn_r _ [271, 272, 273, 274, 275, 276, 277, 278, 279, 280, 281, 282, 63, 64, 65, 66, 67, 68, 69, 70, 71, 72, 73, 75] (by decide +kernel) (by decide +kernel)
theorem gpL_isKept_L_asks_wsL_asks_r6 : GoodIn wsL_isKept wsL_asks_r6 := goodIn_r _ [76, 77, 78, 79, 80, 81, 82, 83, 84, 85, 86, 87, 88, 89, 90, 91, 92, 93, 94, 95, 96, 97, 283, 99] (by decide +kernel) (by decide +kernel)
theorem gpL_isKept_L_asks_wsL_asks_r7 : GoodIn wsL_isKept wsL_asks_r7 := goodIn_r _ [100, 101, 102, 103, 104, 105, 106, 107, 108, 109, 110, 111, 112, 113, 114, 115, 116, 117, 118, 119, 120, 121, 122, 123] (by decide +kernel) (by decide +kernel)
theorem gpL_isKept_L_asks_wsL_asks_r8 : GoodIn wsL_isKept wsL_asks_r8 := goodIn_r _ [124, 125, 126, 127, 128, 129, 130, 131, 132, 284, 136, 137, 138, 139, 140, 141, 142, 143, 144, 285, 286, 146, 147, 149] (by decide +kernel) (by decide +kernel)
theorem gpL_isKept_L_asks_wsL_asks_r9 : GoodIn wsL_isKept wsL_asks_r9 := goodIn_r _ [150, 152, 153, 154, 155, 156, 157, 158, 159, 160, 161, 162, 163, 164, 165, 166, 167, 168, 169, 170, 171, 172, 173, 174] (by decide +kernel) (by decide +kernel)
theorem gpL_isKept_L_asks_wsL_asks_r10 : GoodIn wsL_isKept wsL_asks_r10 := goodIn_r _ [175, 176, 287, 288, 289, 290, 291, 292, 293, 294, 295, 296, 297, 298, 299, 300, 301, 302, 303, 304, 305, 306, 307, 308] (by decide +kernel) (by decide +kernel)
theorem gpL_isKept_L_asks_wsL_asks_r11 : GoodIn wsL_isKept wsL_asks_r11 := goodIn_r _ [309, 27, 28, 29, 30, 32, 33, 34, 39, 40, 41, 42, 43, 44, 45, 46, 47, 48, 49, 50, 51, 52, 53, 54] (by decide +kernel) (by decide +kernel)
theorem gpL_isKept_L_asks_wsL_asks_r12 : GoodIn wsL_isKept wsL_asks_r12 := goodIn_r _ [55, 56, 57, 58, 59, 60, 61, 62, 98, 135, 145, 193, 200, 201, 202, 203, 204, 205, 206, 207, 208, 209, 210, 211] (by decide +kernel) (by decide +kernel)
theorem gpL_isKept_L_asks_wsL_asks_r13 : GoodIn wsL_isKept wsL_asks_r13 := goodIn_r _ [212, 213, 214, 310, 311, 312, 313, 314, 315, 316, 317, 318, 319, 320, 321, 322, 323, 324, 325, 326, 327, 328, 329, 330] (by decide +kernel) (by decide +kernel)
theorem gpL_isKept_L_asks_wsL_asks_r14 : GoodIn wsL_isKept wsL_asks_r14 := goodIn_r _ [331, 332, 333, 334, 335, 336, 337, 338, 339, 340, 341, 342, 343, 344, 345, 346, 347, 348, 349, 350, 351, 352, 353, 354] (by decide +kernel) (by decide +kernel)
theorem gpL_isKept_L_asks_wsL_asks_r15 : GoodIn wsL_isKept wsL_asks_r15 := goodIn_r _ [355, 356, 357, 358, 359, 360, 361, 362, 363, 364, 365, 366, 367, 368, 369, 370, 371, 372, 373, 374, 375, 376, 377, 378] (by decide +kernel) (by decide +kernel)
theorem gpL_isKept_L_asks_wsL_asks_r16 : GoodIn wsL_isKept wsL_asks_r16 := goodIn_r _ [379, 380, 381, 382, 383, 384, 385, 386, 387, 388, 389, 390, 391, 392, 393, 394, 395, 396, 397, 398, 399, 400, 401, 402] (by decide +kernel) (by decide +kernel)
theorem gpL_isKept_L_asks_wsL_asks_r17 : GoodIn wsL_isKept wsL_asks_r17 := goodIn_r _ [403, 404, 405, 406, 407, 408, 409, 410, 411, 412, 413, 414, 415, 416, 417, 418, 419, 420, 421, 422, 423, 424, 425, 426] (by decide +kernel) (by decide +kernel)
theorem gpL_isKept_L_asks_wsL_asks_r18 : GoodIn wsL_isKept wsL_asks_r18 := goodIn_r _ [427, 428, 429, 430, 431, 432, 433, 434, 435, 436, 437, 438, 439, 440, 441, 442, 443, 444, 445, 446, 447, 448, 449, 450] (by decide +kernel) (by decide +kernel)
theorem gpL_isKept_L_asks_wsL_asks_r19 : GoodIn wsL_isKept wsL_asks_r19 := goodIn_r _ [451, 452, 453, 454, 455, 456, 457, 458, 459, 460, 461, 462, 463, 464, 465, 466, 467, 468, 469, 470, 471, 472, 473, 474] (by decide +kernel) (by decide +kernel)
theorem gpL_isKept_L_asks_wsL_asks_r20 : GoodIn wsL_isKept wsL_asks_r20 := goodIn_r _ [475, 476, 477, 478, 479, 480, 481, 482, 483, 484, 485, 486, 487, 488, 489, 490, 491, 492, 493, 494, 495, 496, 497, 498] (by decide +kernel) (by decide +kernel)
theorem gpL_isKept_L_asks_wsL_asks_r21 : GoodIn wsL_isKept wsL_asks_r21 := goodIn_r _ [499, 500, 501, 502, 503, 504, 505, 506, 507, 508, 509, 510, 511, 512, 513, 514, 515, 516, 517, 518, 519, 520, 521, 522] (by decide +kernel) (by decide +kernel)
theorem gpL_isKept_L_asks_wsL_asks_r22 : GoodIn wsL_isKept wsL_asks_r22 := goodIn_r _ [523, 524, 525, 526, 527, 528, 529, 530, 531, 532, 533, 534, 535, 536, 537, 538, 539, 540, 541, 5, 6, 7, 9, 10] (by decide +kernel) (by decide +kernel)
theorem gpL_isKept_L_asks_wsL_asks_r23 : GoodIn wsL_isKept wsL_asks_r23 := goodIn_r _ [12, 542, 543, 544, 545, 546, 547, 548, 549, 550, 551, 552, 553, 554, 555, 556, 557, 558, 559, 560, 561, 562, 563, 564] (by decide +kernel) (by decide +kernel)
theorem gpL_isKept_L_asks_wsL_asks_r24 : GoodIn wsL_isKept wsL_asks_r24 := goodIn_r _ [565] (by decide +kernel) (by decide +kernel)
theorem gpL_isKept_L_asks_wsX90 : GoodIn wsL_isKept wsX90 := goodIn_r _ [566, 567, 568, 569, 570, 571, 572, 573] (by decide +kernel) (by decide +kernel)
theorem gpL_isKept_L_asks_wsX40 : GoodIn wsL_isKept wsX40 := goodIn_r _ [574] (by decide +kernel) (by decide +kernel)
theorem gpL_isKept_L_asks_wsX50 : GoodIn wsL_isKept wsX50 := goodIn_r _ [592, 593, 594] (by decide +kernel) (by decide +kernel)
theorem gpL_isKept_L_asks_wsX10 : GoodIn wsL_isKept wsX10 := goodIn_r _ [583, 584, 585, 586, 587, 588] (by decide +kernel) (by decide +kernel)
theorem gpL_isKept_L_asks_wsX80 : GoodIn wsL_isKept wsX80 := goodIn_r _ [589, 590, 591] (by decide +kernel) (by decide +kernel)
theorem gpL_isKept_L_asks_wsX30 : GoodIn wsL_isKept wsX30 := goodIn_r _ [575, 576, 577, 578, 579, 580, 581, 582] (by decide +kernel) (by decide +kernel)
theorem gpL_isKept_L_asks_wsX00 : GoodIn wsL_isKept wsX00 := goodIn_r _ [595] (by decide +kernel) (by decide +kernel)
theorem gpL_isKept_L_asks_wsX20 : GoodIn wsL_isKept wsX20 := goodIn_r _ [596, 597, 598, 599] (by decide +kernel) (by decide +kernel)
theorem gpL_isKept_L_asks_wsX60 : GoodIn wsL_isKept wsX60 := goodIn_r _ [600, 601] (by decide +kernel) (by decide +kernel)
theorem gpL_isKept_L_asks_wsX70 : GoodIn wsL_isKept wsX70 := goodIn_r _ [602, 603, 604] (by decide +kernel) (by decide +kernel)
theorem ggL_isKept_L_asks : GoodIn wsL_isKept wsL_asks := goodIn_ca (goodIn_ca (goodIn_ca (goodIn_cons (goodIn_r [_] [217] (by decide +kernel) (by decide +kernel)) (goodIn_app (goodIn_app (goodIn_app (goodIn_app (goodIn_app (goodIn_app (goodIn_app (goodIn_app (goodIn_app (goodIn_app (goodIn_app gpL_isKept_L_asks_wsL_asks_r1 (goodIn_app gpL_isKept_L_asks_wsL_asks_r2 (goodIn_app gpL_isKept_L_asks_wsL_asks_r3 (goodIn_app gpL_isKept_L_asks_wsL_asks_r4 (goodIn_app gpL_isKept_L_asks_wsL_asks_r5 (goodIn_app gpL_isKept_L_asks_wsL_asks_r6 (goodIn_app gpL_isKept_L_asks_wsL_asks_r7 (goodIn_app gpL_isKept_L_asks_wsL_asks_r8 (goodIn_app gpL_isKept_L_asks_wsL_asks_r9 (goodIn_app gpL_isKept_L_asks_wsL_asks_r10 (goodIn_app gpL_isKept_L_asks_wsL_asks_r11 (goodIn_app gpL_isKept_L_asks_wsL_asks_r12 (goodIn_app gpL_isKept_L_asks_wsL_asks_r13 (goodIn_app gpL_isKept_L_asks_wsL_asks_r14 (goodIn_app gpL_isKept_L_asks_wsL_asks_r15 (goodIn_app gpL_isKept_L_asks_wsL_asks_r16 (goodIn_app gpL_isKept_L_asks_wsL_asks_r17 (goodIn_app gpL_isKept_L_asks_wsL_asks_r18 (goodIn_app gpL_isKept_L_asks_wsL_asks_r19 (goodIn_app gpL_isKept_L_asks_wsL_asks_r20 (goodIn_app gpL_isKept_L_asks_wsL_asks_r21 (goodIn_app gpL_isKept_L_asks_wsL_asks_r22 (goodIn_app gpL_isKept_L_asks_wsL_asks_r23 (gpL_isKept_L_asks_wsL_asks_r24)))))))))))))))))))))))) gpL_isKept_L_asks_wsX90) gpL_isKept_L_asks_wsX40) gpL_isKept_L_asks_wsX50) gpL_isKept_L_asks_wsX10) gpL_isKept_L_asks_wsX80) gpL_isKept_L_asks_wsX30) gpL_isKept_L_asks_wsX00) gpL_isKept_L_asks_wsX20) gpL_isKept_L_asks_wsX60) gpL_isKept_L_asks_wsX70)) (goodIn_sub (fun _ h => List.mem_cons_of_mem _ (List.mem_append_left _ (List.mem_append_left _ (List.mem_append_right _ h)))) (by decide +kernel))) (goodIn_sub (fun _ h => List.mem_cons_of_mem _ (List.mem_append_left _ (List.mem_append_right _ h))) (by decide +kernel))) (goodIn_sub (fun _ h => List.mem_cons_of_mem _ (List.mem_append_right _ h)) (by decide +kernel))
set_option maxRecDepth 20000 in
theorem gL_isKept_L_asks : GoodIn wsL_isKept (va_wsS RL 161 yL_asks wsL_asks) := goodIn_app (goodIn_of _ (by decide +kernel)) ggL_isKept_L_asks
set_option maxRecDepth 20000 in
theorem ggL_isKept_L_draw : GoodIn wsL_isKept wsL_draw := goodIn_r _ [24, 25, 26] (by decide +kernel) (by decide +kernel)
set_option maxRecDepth 20000 in
theorem gL_isKept_L_draw : GoodIn wsL_isKept (va_wsS RL 13 yL_draw wsL_draw) := goodIn_app (goodIn_of _ (by decide +kernel)) ggL_isKept_L_draw
set_option maxRecDepth 20000 in
theorem gpL_isKept_X9_early_wsX9_early_r1 : GoodIn wsL_isKept wsX9_early_r1 := goodIn_r _ [34, 314, 31, 33, 11, 332, 315, 316, 317, 8, 318, 295, 185, 186, 187, 188, 13, 14, 15, 16, 17, 18, 19, 20] (by decide +kernel) (by decide +kernel)
theorem gpL_isKept_X9_early_wsX9_early_r2 : GoodIn wsL_isKept wsX9_early_r2 := goodIn_r _ [319, 320, 321, 42, 322, 44, 45, 46, 47, 48, 341, 342, 343, 344, 49, 50, 51, 52, 53, 54, 55, 56, 57, 58] (by decide +kernel) (by decide +kernel)
theorem gpL_isKept_X9_early_wsX9_early_r3 : GoodIn wsL_isKept wsX9_early_r3 := goodIn_r _ [59, 60, 61, 62, 63, 64, 65, 66, 67, 68, 69, 70, 71, 72, 73, 74, 75, 76, 77, 78, 79, 80, 81, 82] (by decide +kernel) (by decide +kernel)
theorem gpL_isKept_X9_early_wsX9_early_r4 : GoodIn wsL_isKept wsX9_early_r4 := goodIn_r _ [83, 84, 85, 86, 87, 88, 89, 90, 91, 92, 93, 94, 95, 96, 97, 98, 99, 100, 101, 102, 103, 104, 105, 106] (by decide +kernel) (by decide +kernel)
theorem gpL_isKept_X9_early_wsX9_early_r5 : GoodIn wsL_isKept wsX9_early_r5 := goodIn_r _ [107, 108, 109, 110, 111, 112, 113, 114, 115, 116, 117, 118, 119, 120, 121, 122, 123, 124, 125, 126, 127, 128, 129, 130] (by decide +kernel) (by decide +kernel)
theorem gpL_isKept_X9_early_wsX9_early_r6 : GoodIn wsL_isKept wsX9_early_r6 := goodIn_r _ [131, 132, 133, 134, 135, 136, 137, 138, 139, 140, 141, 142, 143, 144, 145, 146, 147, 148, 149, 150, 151, 152, 153, 154] (by decide +kernel) (by decide +kernel)
theorem gpL_isKept_X9_early_wsX9_early_r7 : GoodIn wsL_isKept wsX9_early_r7 := goodIn_r _ [155, 156, 157, 158, 159, 160, 161, 162, 163, 164, 165, 166, 167, 168, 169, 170, 171, 172, 173, 174, 175, 176, 177, 178] (by decide +kernel) (by decide +kernel)
theorem gpL_isKept_X9_early_wsX9_early_r8 : GoodIn wsL_isKept wsX9_early_r8 := goodIn_r _ [179, 180, 181, 182, 183, 184, 189, 190, 191, 192, 193, 194, 195, 196, 197, 198, 199, 200, 201, 202, 203, 204, 205, 206] (by decide +kernel) (by decide +kernel)
theorem gpL_isKept_X9_early_wsX9_early_r9 : GoodIn wsL_isKept wsX9_early_r9 := goodIn_r _ [207, 208, 209, 210] (by decide +kernel) (by decide +kernel)
theorem gpL_isKept_X9_early_wsX90 : GoodIn wsL_isKept wsX90 := goodIn_r _ [566, 567, 568, 569, 570, 571, 572, 573] (by decide +kernel) (by decide +kernel)
theorem gpL_isKept_X9_early_wsX30 : GoodIn wsL_isKept wsX30 := goodIn_r _ [575, 576, 577, 578, 579, 580, 581, 582] (by decide +kernel) (by decide +kernel)
theorem gpL_isKept_X9_early_wsX10 : GoodIn wsL_isKept wsX10 := goodIn_r _ [583, 584, 585, 586, 587, 588] (by decide +kernel) (by decide +kernel)
theorem gpL_isKept_X9_early_wsX80 : GoodIn wsL_isKept wsX80 := goodIn_r _ [589, 590, 591] (by decide +kernel) (by decide +kernel)
theorem gpL_isKept_X9_early_wsX40 : GoodIn wsL_isKept wsX40 := goodIn_r _ [574] (by decide +kernel) (by decide +kernel)
theorem ggL_isKept_X9_early : GoodIn wsL_isKept wsX9_early := goodIn_ca (goodIn_ca (goodIn_cons (goodIn_r [_] [340] (by decide +kernel) (by decide +kernel)) (goodIn_app (goodIn_app (goodIn_app (goodIn_app (goodIn_app (goodIn_app gpL_isKept_X9_early_wsX9_early_r1 (goodIn_app gpL_isKept_X9_early_wsX9_early_r2 (goodIn_app gpL_isKept_X9_early_wsX9_early_r3 (goodIn_app gpL_isKept_X9_early_wsX9_early_r4 (goodIn_app gpL_isKept_X9_early_wsX9_early_r5 (goodIn_app gpL_isKept_X9_early_wsX9_early_r6 (goodIn_app gpL_isKept_X9_early_wsX9_early_r7 (goodIn_app gpL_isKept_X9_early_wsX9_early_r8 (gpL_isKept_X9_early_wsX9_early_r9))))))))) gpL_isKept_X9_early_wsX90) gpL_isKept_X9_early_wsX30) gpL_isKept_X9_early_wsX10) gpL_isKept_X9_early_wsX80) gpL_isKept_X9_early_wsX40)) (goodIn_sub (fun _ h => List.mem_cons_of_mem _ (List.mem_append_left _ (List.mem_append_right _ h))) (by decide +kernel))) (goodIn_sub (fun _ h => List.mem_cons_of_mem _ (List.mem_append_left _ (List.mem_append_left _ (List.mem_append_right _ h)))) (by decide +kernel))
set_option maxRecDepth 20000 in
theorem gL_isKept_X9_early : GoodIn wsL_isKept (wsV RL 51 RX9 yX9_early wsX9_early) := goodIn_app (goodIn_of _ (by decide +kernel)) ggL_isKept_X9_early
set_option maxRecDepth 20000 in
theorem gpL_isKept_X9_holiday_wsX9_holiday_r1 : GoodIn wsL_isKept wsX9_holiday_r1 := goodIn_r _ [34, 314, 33, 11, 315, 316, 317, 8, 318, 295, 185, 186, 187, 188, 13, 14, 15, 16, 17, 18, 19, 20, 319, 320] (by decide +kernel) (by decide +kernel)
theorem gpL_isKept_X9_holiday_wsX9_holiday_r2 : GoodIn wsL_isKept wsX9_holiday_r2 := goodIn_r _ [321, 42, 322, 44, 45, 46, 47, 48, 323, 324, 325, 326, 49, 50, 51, 52, 53, 54, 55, 56, 57, 58, 59, 60] (by decide +kernel) (by decide +kernel)
theorem gpL_isKept_X9_holiday_wsX9_holiday_r3 : GoodIn wsL_isKept wsX9_holiday_r3 := goodIn_r _ [61, 62, 63, 64, 65, 66, 67, 68, 69, 70, 71, 72, 73, 74, 75, 76, 77, 78, 79, 80, 81, 82, 83, 84] (by decide +kernel) (by decide +kernel)
theorem gpL_isKept_X9_holiday_wsX9_holiday_r4 : GoodIn wsL_isKept wsX9_holiday_r4 := goodIn_r _ [85, 86, 87, 88, 89, 90, 91, 92, 93, 94, 95, 96, 97, 98, 99, 100, 101, 102, 103, 104, 105, 106, 107, 108] (by decide +kernel) (by decide +kernel)
theorem gpL_isKept_X9_holiday_wsX9_holiday_r5 : GoodIn wsL_isKept wsX9_holiday_r5 := goodIn_r _ [109, 110, 111, 112, 113, 114, 115, 116, 117, 118, 119, 120, 121, 122, 123, 124, 125, 126, 127, 128, 129, 130, 131, 132] (by decide +kernel) (by decide +kernel)
theorem gpL_isKept_X9_holiday_wsX9_holiday_r6 : GoodIn wsL_isKept wsX9_holiday_r6 := goodIn_r _ [133, 134, 135, 136, 137, 138, 139, 140, 141, 142, 143, 144, 145, 146, 147, 148, 149, 150, 151, 152, 153, 154, 155, 156] (by decide +kernel) (by decide +kernel)
theorem gpL_isKept_X9_holiday_wsX9_holiday_r7 : GoodIn wsL_isKept wsX9_holiday_r7 := goodIn_r _ [157, 158, 159, 160, 161, 162, 163, 164, 165, 166, 167, 168, 169, 170, 171, 172, 173, 174, 175, 176, 177, 178, 179, 180] (by decide +kernel) (by decide +kernel)
theorem gpL_isKept_X9_holiday_wsX9_holiday_r8 : GoodIn wsL_isKept wsX9_holiday_r8 := goodIn_r _ [181, 182, 183, 184, 189, 190, 191, 192, 193, 194, 195, 196, 197, 198, 199, 200, 201, 202, 203, 204, 205, 206, 207, 208] (by decide +kernel) (by decide +kernel)
theorem gpL_isKept_X9_holiday_wsX9_holiday_r9 : GoodIn wsL_isKept wsX9_holiday_r9 := goodIn_r _ [209, 210] (by decide +kernel) (by decide +kernel)
theorem gpL_isKept_X9_holiday_wsX90 : GoodIn wsL_isKept wsX90 := goodIn_r _ [566, 567, 568, 569, 570, 571, 572, 573] (by decide +kernel) (by decide +kernel)
theorem gpL_isKept_X9_holiday_wsX30 : GoodIn wsL_isKept wsX30 := goodIn_r _ [575, 576, 577, 578, 579, 580, 581, 582] (by decide +kernel) (by decide +kernel)
theorem gpL_isKept_X9_holiday_wsX10 : GoodIn wsL_isKept wsX10 := goodIn_r _ [583, 584, 585, 586, 587, 588] (by decide +kernel) (by decide +kernel)
theorem gpL_isKept_X9_holiday_wsX80 : GoodIn wsL_isKept wsX80 := goodIn_r _ [589, 590, 591] (by decide +kernel) (by decide +kernel)
theorem gpL_isKept_X9_holiday_wsX40 : GoodIn wsL_isKept wsX40 := goodIn_r _ [574] (by decide +kernel) (by decide +kernel)
theorem ggL_isKept_X9_holiday : GoodIn wsL_isKept wsX9_holiday := goodIn_ca (goodIn_ca (goodIn_cons (goodIn_r [_] [313] (by decide +kernel) (by decide +kernel)) (goodIn_app (goodIn_app (goodIn_app (goodIn_app (goodIn_app (goodIn_app gpL_isKept_X9_holiday_wsX9_holiday_r1 (goodIn_app gpL_isKept_X9_holiday_wsX9_holiday_r2 (goodIn_app gpL_isKept_X9_holiday_wsX9_holiday_r3 (goodIn_app gpL_isKept_X9_holiday_wsX9_holiday_r4 (goodIn_app gpL_isKept_X9_holiday_wsX9_holiday_r5 (goodIn_app gpL_isKept_X9_holiday_wsX9_holiday_r6 (goodIn_app gpL_isKept_X9_holiday_wsX9_holiday_r7 (goodIn_app gpL_isKept_X9_holiday_wsX9_holiday_r8 (gpL_isKept_X9_holiday_wsX9_holiday_r9))))))))) gpL_isKept_X9_holiday_wsX90) gpL_isKept_X9_holiday_wsX30) gpL_isKept_X9_holiday_wsX10) gpL_isKept_X9_holiday_wsX80) gpL_isKept_X9_holiday_wsX40)) (goodIn_sub (fun _ h => List.mem_cons_of_mem _ (List.mem_append_left _ (List.mem_append_right _ h))) (by decide +kernel))) (goodIn_sub (fun _ h => List.mem_cons_of_mem _ (List.mem_append_left _ (List.mem_append_left _ (List.mem_append_right _ h)))) (by decide +kernel))
set_option maxRecDepth 20000 in
theorem gL_isKept_X9_holiday : GoodIn wsL_isKept (wsV RL 43 RX9 yX9_holiday wsX9_holiday) := goodIn_app (goodIn_of _ (by decide +kernel)) ggL_isKept_X9_holiday
set_option maxRecDepth 20000 in
theorem gpL_isKept_X9_lend_wsX9_lend_r1 : GoodIn wsL_isKept wsX9_lend_r1 := goodIn_r _ [31, 32, 33, 11, 34, 13, 14, 8, 15, 16, 17, 18, 19, 20, 35, 36, 37, 38, 39, 40, 41, 42, 43, 44] (by decide +kernel) (by decide +kernel)
theorem gpL_isKept_X9_lend_wsX9_lend_r2 : GoodIn wsL_isKept wsX9_lend_r2 := goodIn_r _ [45, 46, 47, 48, 49, 50, 51, 52, 53, 54, 55, 56, 57, 58, 59, 60, 61, 62, 63, 64, 65, 66, 67, 68] (by decide +kernel) (by decide +kernel)
theorem gpL_isKept_X9_lend_wsX9_lend_r3 : GoodIn wsL_isKept wsX9_lend_r3 := goodIn_r _ [69, 70, 71, 72, 73, 74, 75, 76, 77, 78, 79, 80, 81, 82, 83, 84, 85, 86, 87, 88, 89, 90, 91, 92] (by decide +kernel) (by decide +kernel)
theorem gpL_isKept_X9_lend_wsX9_lend_r4 : GoodIn wsL_isKept wsX9_lend_r4 := goodIn_r _ [93, 94, 95, 96, 97, 98, 99, 100, 101, 102, 103, 104, 105, 106, 107, 108, 109, 110, 111, 112, 113, 114, 115, 116] (by decide +kernel) (by decide +kernel)
theorem gpL_isKept_X9_lend_wsX9_lend_r5 : GoodIn wsL_isKept wsX9_lend_r5 := goodIn_r _ [117, 118, 119, 120, 121, 122, 123, 124, 125, 126, 127, 128, 129, 130, 131, 132, 133, 134, 135, 136, 137, 138, 139, 140] (by decide +kernel) (by decide +kernel)
theorem gpL_isKept_X9_lend_wsX9_lend_r6 : GoodIn wsL_isKept wsX9_lend_r6 := goodIn_r _ [141, 142, 143, 144, 145, 146, 147, 148, 149, 150, 151, 152, 153, 154, 155, 156, 157, 158, 159, 160, 161, 162, 163, 164] (by decide +kernel) (by decide +kernel)
theorem gpL_isKept_X9_lend_wsX9_lend_r7 : GoodIn wsL_isKept wsX9_lend_r7 := goodIn_r _ [165, 166, 167, 168, 169, 170, 171, 172, 173, 174, 175, 176, 177, 178, 179, 180, 181, 182, 183, 184, 185, 186, 187, 188] (by decide +kernel) (by decide +kernel)
theorem gpL_isKept_X9_lend_wsX9_lend_r8 : GoodIn wsL_isKept wsX9_lend_r8 := goodIn_r _ [189, 190, 191, 192, 193, 194, 195, 196, 197, 198, 199, 200, 201, 202, 203, 204, 205, 206, 207, 208, 209, 210, 211, 212] (by decide +kernel) (by decide +kernel)
theorem gpL_isKept_X9_lend_wsX9_lend_r9 : GoodIn wsL_isKept wsX9_lend_r9 := goodIn_r _ [213, 214] (by decide +kernel) (by decide +kernel)
theorem gpL_isKept_X9_lend_wsX90 : GoodIn wsL_isKept wsX90 := goodIn_r _ [566, 567, 568, 569, 570, 571, 572, 573] (by decide +kernel) (by decide +kernel)
theorem gpL_isKept_X9_lend_wsX30 : GoodIn wsL_isKept wsX30 := goodIn_r _ [575, 576, 577, 578, 579, 580, 581, 582] (by decide +kernel) (by decide +kernel)
theorem gpL_isKept_X9_lend_wsX10 : GoodIn wsL_isKept wsX10 := goodIn_r _ [583, 584, 585, 586, 587, 588] (by decide +kernel) (by decide +kernel)
theorem gpL_isKept_X9_lend_wsX80 : GoodIn wsL_isKept wsX80 := goodIn_r _ [589, 590, 591] (by decide +kernel) (by decide +kernel)
theorem gpL_isKept_X9_lend_wsX40 : GoodIn wsL_isKept wsX40 := goodIn_r _ [574] (by decide +kernel) (by decide +kernel)
theorem ggL_isKept_X9_lend : GoodIn wsL_isKept wsX9_lend := goodIn_ca (goodIn_ca (goodIn_cons (goodIn_r [_] [30] (by decide +kernel) (by decide +kernel)) (goodIn_app (goodIn_app (goodIn_app (goodIn_app (goodIn_app (goodIn_app gpL_isKept_X9_lend_wsX9_lend_r1 (goodIn_app gpL_isKept_X9_lend_wsX9_lend_r2 (goodIn_app gpL_isKept_X9_lend_wsX9_lend_r3 (goodIn_app gpL_isKept_X9_lend_wsX9_lend_r4 (goodIn_app gpL_isKept_X9_lend_wsX9_lend_r5 (goodIn_app gpL_isKept_X9_lend_wsX9_lend_r6 (goodIn_app gpL_isKept_X9_lend_wsX9_lend_r7 (goodIn_app gpL_isKept_X9_lend_wsX9_lend_r8 (gpL_isKept_X9_lend_wsX9_lend_r9))))))))) gpL_isKept_X9_lend_wsX90) gpL_isKept_X9_lend_wsX30) gpL_isKept_X9_lend_wsX10) gpL_isKept_X9_lend_wsX80) gpL_isKept_X9_lend_wsX40)) (goodIn_sub (fun _ h => List.mem_cons_of_mem _ (List.mem_append_left _ (List.mem_append_left _ (List.mem_append_right _ h)))) (by decide +kernel))) (goodIn_sub (fun _ h => List.mem_cons_of_mem _ (List.mem_append_left _ (List.mem_append_right _ h))) (by decide +kernel))
set_option maxRecDepth 20000 in
theorem gL_isKept_X9_lend : GoodIn wsL_isKept (wsV RL 39 RX9 yX9_lend wsX9_lend) := goodIn_app (goodIn_of _ (by decide +kernel)) ggL_isKept_X9_lend
set_option maxRecDepth 20000 in
theorem ggL_isKept_X9_rowOf : GoodIn wsL_isKept wsX9_rowOf := goodIn_ca (goodIn_ca (goodIn_ca (goodIn_r _ [348, 229, 34, 332, 315, 316, 317, 8, 318, 314, 295, 185, 186, 187, 188, 13, 14, 15, 16, 17, 18, 19, 20, 349, 350, 351, 352, 353, 211, 212, 213, 42, 214, 55, 566, 567, 568, 569, 570, 571, 572, 573, 575, 576, 577, 578, 579, 580, 581, 582] (by decide +kernel) (by decide +kernel)) (goodIn_sub (fun _ h => List.mem_cons_of_mem _ (List.mem_append_left _ (List.mem_append_right _ h))) (by decide +kernel))) (goodIn_sub (fun _ h => List.mem_cons_of_mem _ (List.mem_append_left _ (List.mem_append_left _ (List.mem_append_right _ h)))) (by decide +kernel))) (goodIn_sub (fun _ h => List.mem_cons_of_mem _ (List.mem_append_right _ h)) (by decide +kernel))
set_option maxRecDepth 20000 in
theorem gL_isKept_X9_rowOf : GoodIn wsL_isKept (wsV RL 55 RX9 yX9_rowOf wsX9_rowOf) := goodIn_app (goodIn_of _ (by decide +kernel)) ggL_isKept_X9_rowOf
set_option maxRecDepth 20000 in
theorem ggL_isKept_X9_rows : GoodIn wsL_isKept wsX9_rows := goodIn_ca (goodIn_r _ [560, 34, 332, 315, 316, 317, 8, 318, 314, 295, 185, 186, 187, 188, 566, 567, 568, 569, 570, 571, 572, 573, 575, 576, 577, 578, 579, 580, 581, 582] (by decide +kernel) (by decide +kernel)) (goodIn_sub (fun _ h => List.mem_cons_of_mem _ (List.mem_append_left _ (List.mem_append_right _ h))) (by decide +kernel))
set_option maxRecDepth 20000 in
theorem gL_isKept_X9_rows : GoodIn wsL_isKept (wsV RL 115 RX9 yX9_rows wsX9_rows) := goodIn_app (goodIn_of _ (by decide +kernel)) ggL_isKept_X9_rows
set_option maxRecDepth 20000 in
theorem ggL_isKept_X9_setMode : GoodIn wsL_isKept wsX9_setMode := goodIn_ca (goodIn_r _ [9, 10, 11, 12, 13, 14, 8, 15, 16, 17, 18, 19, 20, 566, 567, 568, 569, 570, 571, 572, 573, 574] (by decide +kernel) (by decide +kernel)) (goodIn_sub (fun _ h => List.mem_cons_of_mem _ (List.mem_append_left _ (List.mem_append_left _ (List.mem_append_right _ h)))) (by decide +kernel))
set_option maxRecDepth 20000 in
theorem gL_isKept_X9_setMode : GoodIn wsL_isKept (wsV RL 105 RX9 yX9_setMode wsX9_setMode) := goodIn_app (goodIn_of _ (by decide +kernel)) ggL_isKept_X9_setMode
set_option maxRecDepth 20000 in
theorem ggL_isKept_X9_total : GoodIn wsL_isKept wsX9_total := goodIn_ca (goodIn_ca (goodIn_r _ [357, 358, 34, 315, 316, 317, 8, 318, 314, 295, 185, 186, 187, 188, 13, 14, 15, 16, 17, 18, 19, 20, 359, 360, 361, 42, 362, 53, 55, 566, 567, 568, 569, 570, 571, 572, 573, 575, 576, 577, 578, 579, 580, 581, 582] (by decide +kernel) (by decide +kernel)) (goodIn_sub (fun _ h => List.mem_cons_of_mem _ (List.mem_append_left _ (List.mem_append_right _ h))) (by decide +kernel))) (goodIn_sub (fun _ h => List.mem_cons_of_mem _ (List.mem_append_left _ (List.mem_append_left _ (List.mem_append_right _ h)))) (by decide +kernel))
set_option maxRecDepth 20000 in
theorem gL_isKept_X9_total : GoodIn wsL_isKept (wsV RL 58 RX9 yX9_total wsX9_total) := goodIn_app (goodIn_of _ (by decide +kernel)) ggL_isKept_X9_total
