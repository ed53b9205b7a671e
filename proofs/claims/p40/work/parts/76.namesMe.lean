-- printed rows that the walks use
theorem dL_law_0 : decode cL_law 0 = .ok (.aload_n 0, 1) := by decide +kernel
theorem dL_law_1 : decode cL_law 1 = .ok (.invokestatic 271, 3) := by decide +kernel
theorem dL_law_101 : decode cL_law 101 = .ok (.lcmp, 1) := by decide +kernel
theorem dL_law_102 : decode cL_law 102 = .ok (.ifCond .ne 29, 3) := by decide +kernel
theorem dL_law_105 : decode cL_law 105 = .ok (.aload_n 2, 1) := by decide +kernel
theorem dL_law_106 : decode cL_law 106 = .ok (.bipush 10, 2) := by decide +kernel
theorem dL_law_108 : decode cL_law 108 = .ok (.lconst 0, 1) := by decide +kernel
theorem dL_law_109 : decode cL_law 109 = .ok (.bipush 9, 2) := by decide +kernel
theorem dL_law_111 : decode cL_law 111 = .ok (.iconst 0, 1) := by decide +kernel
theorem dL_law_112 : decode cL_law 112 = .ok (.invokestatic 161, 3) := by decide +kernel
theorem dL_law_115 : decode cL_law 115 = .ok (.ldc2_w 131, 3) := by decide +kernel
theorem dL_law_118 : decode cL_law 118 = .ok (.lcmp, 1) := by decide +kernel
theorem dL_law_119 : decode cL_law 119 = .ok (.ifCond .ne 12, 3) := by decide +kernel
theorem dL_law_12 : decode cL_law 12 = .ok (.astore_n 2, 1) := by decide +kernel
theorem dL_law_122 : decode cL_law 122 = .ok (.aload_n 2, 1) := by decide +kernel
theorem dL_law_123 : decode cL_law 123 = .ok (.invokevirtual 219, 3) := by decide +kernel
theorem dL_law_126 : decode cL_law 126 = .ok (.fconst 0, 1) := by decide +kernel
theorem dL_law_127 : decode cL_law 127 = .ok (.fcmp .l, 1) := by decide +kernel
theorem dL_law_128 : decode cL_law 128 = .ok (.ifCond .eq 5, 3) := by decide +kernel
theorem dL_law_13 : decode cL_law 13 = .ok (.aload_n 2, 1) := by decide +kernel
theorem dL_law_133 : decode cL_law 133 = .ok (.aload_n 1, 1) := by decide +kernel
theorem dL_law_134 : decode cL_law 134 = .ok (.bipush 8, 2) := by decide +kernel
theorem dL_law_136 : decode cL_law 136 = .ok (.invokestatic 13, 3) := by decide +kernel
theorem dL_law_139 : decode cL_law 139 = .ok (.istore_n 3, 1) := by decide +kernel
theorem dL_law_14 : decode cL_law 14 = .ok (.invokevirtual 147, 3) := by decide +kernel
theorem dL_law_140 : decode cL_law 140 = .ok (.aload_n 2, 1) := by decide +kernel
theorem dL_law_141 : decode cL_law 141 = .ok (.iload_n 3, 1) := by decide +kernel
theorem dL_law_142 : decode cL_law 142 = .ok (.invokevirtual 105, 3) := by decide +kernel
theorem dL_law_145 : decode cL_law 145 = .ok (.bipush 6, 2) := by decide +kernel
theorem dL_law_147 : decode cL_law 147 = .ok (.if_icmp .ne 11, 3) := by decide +kernel
theorem dL_law_150 : decode cL_law 150 = .ok (.aload_n 2, 1) := by decide +kernel
theorem dL_law_151 : decode cL_law 151 = .ok (.invokevirtual 147, 3) := by decide +kernel
theorem dL_law_154 : decode cL_law 154 = .ok (.iload_n 3, 1) := by decide +kernel
theorem dL_law_155 : decode cL_law 155 = .ok (.if_icmp .eq 5, 3) := by decide +kernel
theorem dL_law_160 : decode cL_law 160 = .ok (.aload_n 2, 1) := by decide +kernel
theorem dL_law_161 : decode cL_law 161 = .ok (.aload_n 1, 1) := by decide +kernel
theorem dL_law_162 : decode cL_law 162 = .ok (.invokestatic 276, 3) := by decide +kernel
theorem dL_law_165 : decode cL_law 165 = .ok (.ifCond .eq 43, 3) := by decide +kernel
theorem dL_law_168 : decode cL_law 168 = .ok (.aload_n 2, 1) := by decide +kernel
theorem dL_law_169 : decode cL_law 169 = .ok (.aload_n 1, 1) := by decide +kernel
theorem dL_law_17 : decode cL_law 17 = .ok (.bipush 6, 2) := by decide +kernel
theorem dL_law_170 : decode cL_law 170 = .ok (.invokestatic 280, 3) := by decide +kernel
theorem dL_law_173 : decode cL_law 173 = .ok (.ifCond .eq 35, 3) := by decide +kernel
theorem dL_law_176 : decode cL_law 176 = .ok (.aload_n 2, 1) := by decide +kernel
theorem dL_law_177 : decode cL_law 177 = .ok (.aload_n 1, 1) := by decide +kernel
theorem dL_law_178 : decode cL_law 178 = .ok (.invokestatic 283, 3) := by decide +kernel
theorem dL_law_181 : decode cL_law 181 = .ok (.ifCond .eq 27, 3) := by decide +kernel
theorem dL_law_184 : decode cL_law 184 = .ok (.aload_n 2, 1) := by decide +kernel
theorem dL_law_185 : decode cL_law 185 = .ok (.aload_n 1, 1) := by decide +kernel
theorem dL_law_186 : decode cL_law 186 = .ok (.invokestatic 286, 3) := by decide +kernel
theorem dL_law_189 : decode cL_law 189 = .ok (.ifCond .eq 19, 3) := by decide +kernel
theorem dL_law_19 : decode cL_law 19 = .ok (.if_icmp .ne 112, 3) := by decide +kernel
theorem dL_law_192 : decode cL_law 192 = .ok (.aload_n 2, 1) := by decide +kernel
theorem dL_law_193 : decode cL_law 193 = .ok (.aload_n 1, 1) := by decide +kernel
theorem dL_law_194 : decode cL_law 194 = .ok (.invokestatic 289, 3) := by decide +kernel
theorem dL_law_197 : decode cL_law 197 = .ok (.ifCond .eq 11, 3) := by decide +kernel
theorem dL_law_200 : decode cL_law 200 = .ok (.aload_n 2, 1) := by decide +kernel
theorem dL_law_201 : decode cL_law 201 = .ok (.aload_n 1, 1) := by decide +kernel
theorem dL_law_202 : decode cL_law 202 = .ok (.invokestatic 292, 3) := by decide +kernel
theorem dL_law_205 : decode cL_law 205 = .ok (.ifCond .ne 5, 3) := by decide +kernel
theorem dL_law_210 : decode cL_law 210 = .ok (.aload_n 2, 1) := by decide +kernel
theorem dL_law_211 : decode cL_law 211 = .ok (.aload_n 1, 1) := by decide +kernel
theorem dL_law_212 : decode cL_law 212 = .ok (.invokestatic 295, 3) := by decide +kernel
theorem dL_law_215 : decode cL_law 215 = .ok (.ifCond .eq 31, 3) := by decide +kernel
theorem dL_law_218 : decode cL_law 218 = .ok (.aload_n 2, 1) := by decide +kernel
theorem dL_law_219 : decode cL_law 219 = .ok (.aload_n 1, 1) := by decide +kernel
theorem dL_law_22 : decode cL_law 22 = .ok (.aload_n 2, 1) := by decide +kernel
theorem dL_law_220 : decode cL_law 220 = .ok (.invokestatic 298, 3) := by decide +kernel
theorem dL_law_223 : decode cL_law 223 = .ok (.ifCond .eq 23, 3) := by decide +kernel
theorem dL_law_226 : decode cL_law 226 = .ok (.aload_n 2, 1) := by decide +kernel
theorem dL_law_227 : decode cL_law 227 = .ok (.aload_n 1, 1) := by decide +kernel
theorem dL_law_228 : decode cL_law 228 = .ok (.invokestatic 301, 3) := by decide +kernel
theorem dL_law_23 : decode cL_law 23 = .ok (.bipush 27, 2) := by decide +kernel
theorem dL_law_231 : decode cL_law 231 = .ok (.ifCond .eq 15, 3) := by decide +kernel
theorem dL_law_234 : decode cL_law 234 = .ok (.aload_n 2, 1) := by decide +kernel
theorem dL_law_235 : decode cL_law 235 = .ok (.aload_n 1, 1) := by decide +kernel
theorem dL_law_236 : decode cL_law 236 = .ok (.invokestatic 304, 3) := by decide +kernel
theorem dL_law_239 : decode cL_law 239 = .ok (.ifCond .eq 7, 3) := by decide +kernel
theorem dL_law_242 : decode cL_law 242 = .ok (.iconst 1, 1) := by decide +kernel
theorem dL_law_243 : decode cL_law 243 = .ok (.goto 4, 3) := by decide +kernel
theorem dL_law_247 : decode cL_law 247 = .ok (.ireturn, 1) := by decide +kernel
theorem dL_law_25 : decode cL_law 25 = .ok (.lconst 0, 1) := by decide +kernel
theorem dL_law_26 : decode cL_law 26 = .ok (.iconst 0, 1) := by decide +kernel
theorem dL_law_27 : decode cL_law 27 = .ok (.iconst 0, 1) := by decide +kernel
theorem dL_law_28 : decode cL_law 28 = .ok (.invokestatic 161, 3) := by decide +kernel
theorem dL_law_31 : decode cL_law 31 = .ok (.ldc2_w 131, 3) := by decide +kernel
theorem dL_law_34 : decode cL_law 34 = .ok (.lcmp, 1) := by decide +kernel
theorem dL_law_35 : decode cL_law 35 = .ok (.ifCond .ne 96, 3) := by decide +kernel
theorem dL_law_38 : decode cL_law 38 = .ok (.aload_n 2, 1) := by decide +kernel
theorem dL_law_39 : decode cL_law 39 = .ok (.bipush 6, 2) := by decide +kernel
theorem dL_law_4 : decode cL_law 4 = .ok (.astore_n 1, 1) := by decide +kernel
theorem dL_law_41 : decode cL_law 41 = .ok (.lconst 0, 1) := by decide +kernel
theorem dL_law_42 : decode cL_law 42 = .ok (.iconst (-1), 1) := by decide +kernel
theorem dL_law_43 : decode cL_law 43 = .ok (.iconst 0, 1) := by decide +kernel
theorem dL_law_44 : decode cL_law 44 = .ok (.invokestatic 161, 3) := by decide +kernel
theorem dL_law_47 : decode cL_law 47 = .ok (.ldc2_w 131, 3) := by decide +kernel
theorem dL_law_5 : decode cL_law 5 = .ok (.new 1, 3) := by decide +kernel
theorem dL_law_50 : decode cL_law 50 = .ok (.lcmp, 1) := by decide +kernel
theorem dL_law_51 : decode cL_law 51 = .ok (.ifCond .ne 80, 3) := by decide +kernel
theorem dL_law_54 : decode cL_law 54 = .ok (.aload_n 2, 1) := by decide +kernel
theorem dL_law_55 : decode cL_law 55 = .ok (.bipush 7, 2) := by decide +kernel
theorem dL_law_57 : decode cL_law 57 = .ok (.lconst 0, 1) := by decide +kernel
theorem dL_law_58 : decode cL_law 58 = .ok (.iconst 0, 1) := by decide +kernel
theorem dL_law_59 : decode cL_law 59 = .ok (.iconst (-1), 1) := by decide +kernel
theorem dL_law_60 : decode cL_law 60 = .ok (.invokestatic 161, 3) := by decide +kernel
theorem dL_law_63 : decode cL_law 63 = .ok (.ldc2_w 131, 3) := by decide +kernel
theorem dL_law_66 : decode cL_law 66 = .ok (.lcmp, 1) := by decide +kernel
theorem dL_law_67 : decode cL_law 67 = .ok (.ifCond .ne 64, 3) := by decide +kernel
theorem dL_law_70 : decode cL_law 70 = .ok (.aload_n 2, 1) := by decide +kernel
theorem dL_law_71 : decode cL_law 71 = .ok (.bipush 8, 2) := by decide +kernel
theorem dL_law_73 : decode cL_law 73 = .ok (.ldc2_w 191, 3) := by decide +kernel
theorem dL_law_76 : decode cL_law 76 = .ok (.iconst 0, 1) := by decide +kernel
theorem dL_law_77 : decode cL_law 77 = .ok (.iconst 0, 1) := by decide +kernel
theorem dL_law_78 : decode cL_law 78 = .ok (.invokestatic 161, 3) := by decide +kernel
theorem dL_law_8 : decode cL_law 8 = .ok (.dup, 1) := by decide +kernel
theorem dL_law_81 : decode cL_law 81 = .ok (.ldc2_w 131, 3) := by decide +kernel
theorem dL_law_84 : decode cL_law 84 = .ok (.lcmp, 1) := by decide +kernel
theorem dL_law_85 : decode cL_law 85 = .ok (.ifCond .ne 46, 3) := by decide +kernel
theorem dL_law_88 : decode cL_law 88 = .ok (.aload_n 2, 1) := by decide +kernel
theorem dL_law_89 : decode cL_law 89 = .ok (.bipush 9, 2) := by decide +kernel
theorem dL_law_9 : decode cL_law 9 = .ok (.invokespecial 275, 3) := by decide +kernel
theorem dL_law_91 : decode cL_law 91 = .ok (.lconst 0, 1) := by decide +kernel
theorem dL_law_92 : decode cL_law 92 = .ok (.iconst 0, 1) := by decide +kernel
theorem dL_law_93 : decode cL_law 93 = .ok (.bipush 9, 2) := by decide +kernel
theorem dL_law_95 : decode cL_law 95 = .ok (.invokestatic 161, 3) := by decide +kernel
theorem dL_law_98 : decode cL_law 98 = .ok (.ldc2_w 131, 3) := by decide +kernel
set_option maxRecDepth 100000 in
theorem gpL_law_L_areRefused_wsL_areRefused_r1 : GoodIn wsL_law wsL_areRefused_r1 := goodIn_r _ [796, 130, 797, 798, 746, 648, 3, 799, 800, 4, 743, 764, 801, 129, 632, 633, 7, 634, 12, 635, 669, 670, 671, 2] rfl (by decide +kernel)
set_option maxRecDepth 100000 in
theorem gpL_law_L_areRefused_wsL_areRefused_r2 : GoodIn wsL_law wsL_areRefused_r2 := goodIn_r _ [672, 26, 195, 196, 197, 25, 198, 56, 673, 674, 675, 676, 677, 678, 263, 679, 123, 124, 125, 126, 127, 128, 131, 132] rfl (by decide +kernel)
set_option maxRecDepth 100000 in
theorem gpL_law_L_areRefused_wsL_areRefused_r3 : GoodIn wsL_law wsL_areRefused_r3 := goodIn_r _ [133, 134, 135, 136, 137, 138, 22, 139, 140, 141, 142, 143, 144, 145, 146, 147, 148, 149, 21, 150, 151, 152, 153, 154] rfl (by decide +kernel)
set_option maxRecDepth 100000 in
theorem gpL_law_L_areRefused_wsL_areRefused_r4 : GoodIn wsL_law wsL_areRefused_r4 := goodIn_r _ [155, 156, 157, 158, 159, 160, 161, 51, 162, 163, 164, 165, 166, 167, 168, 169, 170, 171, 172, 173, 174, 175, 176, 177] rfl (by decide +kernel)
set_option maxRecDepth 100000 in
theorem gpL_law_L_areRefused_wsL_areRefused_r5 : GoodIn wsL_law wsL_areRefused_r5 := goodIn_r _ [178, 179, 180, 181, 182, 183, 184, 185, 186, 187, 188, 189, 190, 191, 192, 193, 194, 199, 200, 201, 202, 203, 204, 205] rfl (by decide +kernel)
set_option maxRecDepth 100000 in
theorem gpL_law_L_areRefused_wsL_areRefused_r6 : GoodIn wsL_law wsL_areRefused_r6 := goodIn_r _ [206, 207, 208, 209, 210, 211, 212, 213, 60, 214, 215, 216, 217, 218, 219, 220, 221, 222, 223, 224, 225, 226, 59, 227] rfl (by decide +kernel)
set_option maxRecDepth 100000 in
theorem gpL_law_L_areRefused_wsL_areRefused_r7 : GoodIn wsL_law wsL_areRefused_r7 := goodIn_r _ [228, 229, 230, 231, 232, 233, 234, 235, 236, 237, 238, 239, 71, 72, 73, 68, 69, 240, 241, 242, 67, 243, 244, 245] rfl (by decide +kernel)
set_option maxRecDepth 100000 in
theorem gpL_law_L_areRefused_wsL_areRefused_r8 : GoodIn wsL_law wsL_areRefused_r8 := goodIn_r _ [246, 247, 78, 77, 248, 79, 249, 250, 251, 252, 253, 254, 255, 256, 257, 258, 259, 260, 261, 262, 264, 265, 266, 267] rfl (by decide +kernel)
set_option maxRecDepth 100000 in
theorem gpL_law_L_areRefused_wsL_areRefused_r9 : GoodIn wsL_law wsL_areRefused_r9 := goodIn_r _ [268, 269, 270, 55, 271, 272, 273, 274, 275, 276, 277, 278, 279, 280, 281, 282, 283, 284, 285, 286, 70, 287, 288, 289] rfl (by decide +kernel)
set_option maxRecDepth 100000 in
theorem gpL_law_L_areRefused_wsL_areRefused_r10 : GoodIn wsL_law wsL_areRefused_r10 := goodIn_r _ [290, 291, 292, 293, 294, 295, 296, 297, 298, 299, 300, 301, 302, 303, 304, 305, 306, 307, 308, 309, 310, 311, 312, 313] rfl (by decide +kernel)
set_option maxRecDepth 100000 in
theorem gpL_law_L_areRefused_wsL_areRefused_r11 : GoodIn wsL_law wsL_areRefused_r11 := goodIn_r _ [314, 315, 316, 317, 318, 319, 320, 321, 322, 323, 324, 325, 326, 327, 328, 329, 330, 331, 332, 333, 334, 335, 336, 337] rfl (by decide +kernel)
set_option maxRecDepth 100000 in
theorem gpL_law_L_areRefused_wsL_areRefused_r12 : GoodIn wsL_law wsL_areRefused_r12 := goodIn_r _ [338, 339, 340, 341, 342, 343, 344, 345, 346, 347, 348, 349, 350, 47, 46, 351, 352, 353, 45, 354, 115, 116, 107, 108] rfl (by decide +kernel)
set_option maxRecDepth 100000 in
theorem gpL_law_L_areRefused_wsL_areRefused_r13 : GoodIn wsL_law wsL_areRefused_r13 := goodIn_r _ [110, 355, 356, 357, 358, 117, 359, 112, 360, 361, 362, 363, 114, 364, 365, 366, 367, 368, 369, 370, 371, 372, 373, 374] rfl (by decide +kernel)
set_option maxRecDepth 100000 in
theorem gpL_law_L_areRefused_wsL_areRefused_r14 : GoodIn wsL_law wsL_areRefused_r14 := goodIn_r _ [375, 376, 377, 378, 379, 380, 381, 382, 383, 384, 385, 386, 387, 388, 389, 390, 391, 392, 393, 394, 395, 396, 397, 398] rfl (by decide +kernel)
set_option maxRecDepth 100000 in
theorem gpL_law_L_areRefused_wsL_areRefused_r15 : GoodIn wsL_law wsL_areRefused_r15 := goodIn_r _ [399, 400, 401, 402, 403, 404, 405, 406, 407, 408, 409, 410, 411, 412, 413, 414, 415, 416, 417, 418, 419, 420, 421, 422] rfl (by decide +kernel)
set_option maxRecDepth 100000 in
theorem gpL_law_L_areRefused_wsL_areRefused_r16 : GoodIn wsL_law wsL_areRefused_r16 := goodIn_r _ [423, 424, 425, 426, 427, 428, 429, 430, 431, 432, 433, 434, 435, 436, 437, 438, 439, 440, 441, 30, 442, 443, 444, 445] rfl (by decide +kernel)
set_option maxRecDepth 100000 in
theorem gpL_law_L_areRefused_wsL_areRefused_r17 : GoodIn wsL_law wsL_areRefused_r17 := goodIn_r _ [446, 447, 29, 448, 84, 449, 450, 451, 452, 453, 454, 455, 456, 457, 458, 459, 460, 461, 462, 463, 464, 465, 466, 34] rfl (by decide +kernel)
set_option maxRecDepth 100000 in
theorem gpL_law_L_areRefused_wsL_areRefused_r18 : GoodIn wsL_law wsL_areRefused_r18 := goodIn_r _ [467, 468, 469, 470, 33, 471, 92, 472, 88, 473, 474, 475, 476, 477, 478, 479, 480, 481, 482, 483, 484, 485, 486, 487] rfl (by decide +kernel)
set_option maxRecDepth 100000 in
theorem gpL_law_L_areRefused_wsL_areRefused_r19 : GoodIn wsL_law wsL_areRefused_r19 := goodIn_r _ [488, 90, 489, 490, 491, 492, 493, 494, 495, 496, 497, 498, 499, 500, 501, 502, 503, 504, 505, 506, 507, 508, 509, 510] rfl (by decide +kernel)
set_option maxRecDepth 100000 in
theorem gpL_law_L_areRefused_wsL_areRefused_r20 : GoodIn wsL_law wsL_areRefused_r20 := goodIn_r _ [511, 512, 513, 514, 515, 516, 517, 518, 519, 91, 520, 521, 522, 523, 524, 38, 525, 526, 527, 528, 37, 529, 96, 97] rfl (by decide +kernel)
set_option maxRecDepth 100000 in
theorem gpL_law_L_areRefused_wsL_areRefused_r21 : GoodIn wsL_law wsL_areRefused_r21 := goodIn_r _ [530, 531, 532, 533, 534, 535, 536, 537, 538, 539, 540, 541, 542, 543, 544, 545, 546, 42, 547, 548, 549, 550, 551, 41] rfl (by decide +kernel)
set_option maxRecDepth 100000 in
theorem gpL_law_L_areRefused_wsL_areRefused_r22 : GoodIn wsL_law wsL_areRefused_r22 := goodIn_r _ [552, 103, 101, 553, 554, 555, 556, 102, 557, 558, 559, 560, 561, 562, 563, 564, 565, 566, 567, 568, 569, 570, 571, 572] rfl (by decide +kernel)
set_option maxRecDepth 100000 in
theorem gpL_law_L_areRefused_wsL_areRefused_r23 : GoodIn wsL_law wsL_areRefused_r23 := goodIn_r _ [573, 574, 575, 576, 577, 578, 579, 580, 581, 582, 583, 584, 585, 586, 587, 588, 589, 590, 591, 592, 593, 594, 595, 596] rfl (by decide +kernel)
set_option maxRecDepth 100000 in
theorem gpL_law_L_areRefused_wsL_areRefused_r24 : GoodIn wsL_law wsL_areRefused_r24 := goodIn_r _ [597, 598, 599, 600, 601, 602, 603, 122, 604, 605, 606, 607, 608, 609, 610, 611, 612, 613, 614, 615, 616, 617, 618, 619] rfl (by decide +kernel)
set_option maxRecDepth 100000 in
theorem gpL_law_L_areRefused_wsL_areRefused_r25 : GoodIn wsL_law wsL_areRefused_r25 := goodIn_r _ [620, 621, 622, 623, 624, 625, 626, 627, 802, 803, 804, 805, 806, 807, 808, 809, 766, 767, 768, 769, 770, 771, 772, 773] rfl (by decide +kernel)
set_option maxRecDepth 100000 in
theorem gpL_law_L_areRefused_wsX90 : GoodIn wsL_law wsX90 := goodIn_r _ [810, 811, 812, 813, 814, 815, 816, 817] rfl (by decide +kernel)
set_option maxRecDepth 100000 in
theorem gpL_law_L_areRefused_wsX50 : GoodIn wsL_law wsX50 := goodIn_r _ [819, 820, 821] rfl (by decide +kernel)
set_option maxRecDepth 100000 in
theorem gpL_law_L_areRefused_wsX40 : GoodIn wsL_law wsX40 := goodIn_r _ [818] rfl (by decide +kernel)
set_option maxRecDepth 100000 in
theorem gpL_law_L_areRefused_wsX10 : GoodIn wsL_law wsX10 := goodIn_r _ [840, 841, 842, 843, 844, 845] rfl (by decide +kernel)
set_option maxRecDepth 100000 in
theorem gpL_law_L_areRefused_wsX80 : GoodIn wsL_law wsX80 := goodIn_r _ [846, 847, 848] rfl (by decide +kernel)
set_option maxRecDepth 100000 in
theorem gpL_law_L_areRefused_wsX30 : GoodIn wsL_law wsX30 := goodIn_r _ [832, 833, 834, 835, 836, 837, 838, 839] rfl (by decide +kernel)
set_option maxRecDepth 100000 in
theorem gpL_law_L_areRefused_wsX00 : GoodIn wsL_law wsX00 := goodIn_r _ [822] rfl (by decide +kernel)
set_option maxRecDepth 100000 in
theorem gpL_law_L_areRefused_wsX20 : GoodIn wsL_law wsX20 := goodIn_r _ [823, 824, 825, 826] rfl (by decide +kernel)
set_option maxRecDepth 100000 in
theorem gpL_law_L_areRefused_wsX60 : GoodIn wsL_law wsX60 := goodIn_r _ [827, 828] rfl (by decide +kernel)
set_option maxRecDepth 100000 in
theorem gpL_law_L_areRefused_wsX70 : GoodIn wsL_law wsX70 := goodIn_r _ [829, 830, 831] rfl (by decide +kernel)
set_option maxRecDepth 100000 in
theorem ggL_law_L_areRefused : GoodIn wsL_law wsL_areRefused := goodIn_ca (goodIn_ca (goodIn_ca (goodIn_cons (goodIn_r [_] [795] rfl (by decide +kernel)) (goodIn_app (goodIn_app (goodIn_app (goodIn_app (goodIn_app (goodIn_app (goodIn_app (goodIn_app (goodIn_app (goodIn_app (goodIn_app gpL_law_L_areRefused_wsL_areRefused_r1 (goodIn_app gpL_law_L_areRefused_wsL_areRefused_r2 (goodIn_app gpL_law_L_areRefused_wsL_areRefused_r3 (goodIn_app gpL_law_L_areRefused_wsL_areRefused_r4 (goodIn_app gpL_law_L_areRefused_wsL_areRefused_r5 (goodIn_app gpL_law_L_areRefused_wsL_areRefused_r6 (goodIn_app gpL_law_L_areRefused_wsL_areRefused_r7 (goodIn_app gpL_law_L_areRefused_wsL_areRefused_r8 (goodIn_app gpL_law_L_areRefused_wsL_areRefused_r9 (goodIn_app gpL_law_L_areRefused_wsL_areRefused_r10 (goodIn_app gpL_law_L_areRefused_wsL_areRefused_r11 (goodIn_app gpL_law_L_areRefused_wsL_areRefused_r12 (goodIn_app gpL_law_L_areRefused_wsL_areRefused_r13 (goodIn_app gpL_law_L_areRefused_wsL_areRefused_r14 (goodIn_app gpL_law_L_areRefused_wsL_areRefused_r15 (goodIn_app gpL_law_L_areRefused_wsL_areRefused_r16 (goodIn_app gpL_law_L_areRefused_wsL_areRefused_r17 (goodIn_app gpL_law_L_areRefused_wsL_areRefused_r18 (goodIn_app gpL_law_L_areRefused_wsL_areRefused_r19 (goodIn_app gpL_law_L_areRefused_wsL_areRefused_r20 (goodIn_app gpL_law_L_areRefused_wsL_areRefused_r21 (goodIn_app gpL_law_L_areRefused_wsL_areRefused_r22 (goodIn_app gpL_law_L_areRefused_wsL_areRefused_r23 (goodIn_app gpL_law_L_areRefused_wsL_areRefused_r24 (gpL_law_L_areRefused_wsL_areRefused_r25))))))))))))))))))))))))) gpL_law_L_areRefused_wsX90) gpL_law_L_areRefused_wsX50) gpL_law_L_areRefused_wsX40) gpL_law_L_areRefused_wsX10) gpL_law_L_areRefused_wsX80) gpL_law_L_areRefused_wsX30) gpL_law_L_areRefused_wsX00) gpL_law_L_areRefused_wsX20) gpL_law_L_areRefused_wsX60) gpL_law_L_areRefused_wsX70)) (goodIn_sub (fun _ h => List.mem_append_left _ (List.mem_append_left _ (List.mem_append_right _ h))) (by decide +kernel))) (goodIn_sub (fun _ h => List.mem_append_left _ (List.mem_append_right _ h)) (by decide +kernel))) (goodIn_sub (fun _ h => List.mem_append_right _ h) (by decide +kernel))
set_option maxRecDepth 20000 in
theorem gL_law_L_areRefused : GoodIn wsL_law (va_wsS RL 304 yL_areRefused wsL_areRefused) := goodIn_app (goodIn_of _ (by decide +kernel)) ggL_law_L_areRefused
set_option maxRecDepth 100000 in
theorem gpL_law_L_asks_wsL_asks_r1 : GoodIn wsL_law wsL_asks_r1 := goodIn_r _ [126, 127, 128, 129, 130, 3, 131, 132, 133, 2, 134, 135, 136, 137, 138, 22, 139, 140, 141, 142, 143, 144, 145, 146] rfl (by decide +kernel)
set_option maxRecDepth 100000 in
theorem gpL_law_L_asks_wsL_asks_r2 : GoodIn wsL_law wsL_asks_r2 := goodIn_r _ [147, 148, 149, 21, 150, 151, 152, 153, 154, 155, 156, 157, 158, 159, 160, 161, 51, 162, 163, 164, 165, 166, 167, 168] rfl (by decide +kernel)
set_option maxRecDepth 100000 in
theorem gpL_law_L_asks_wsL_asks_r3 : GoodIn wsL_law wsL_asks_r3 := goodIn_r _ [169, 170, 171, 172, 173, 174, 175, 176, 177, 26, 178, 179, 180, 25, 181, 56, 182, 183, 184, 185, 186, 187, 188, 189] rfl (by decide +kernel)
set_option maxRecDepth 100000 in
theorem gpL_law_L_asks_wsL_asks_r4 : GoodIn wsL_law wsL_asks_r4 := goodIn_r _ [190, 191, 192, 193, 194, 195, 196, 197, 198, 199, 200, 201, 202, 203, 204, 205, 206, 207, 208, 209, 210, 211, 212, 213] rfl (by decide +kernel)
set_option maxRecDepth 100000 in
theorem gpL_law_L_asks_wsL_asks_r5 : GoodIn wsL_law wsL_asks_r5 := goodIn_r _ [60, 214, 215, 216, 217, 218, 219, 220, 221, 222, 223, 224, 225, 226, 59, 227, 228, 229, 230, 231, 232, 233, 234, 235] rfl (by decide +kernel)
set_option maxRecDepth 100000 in
theorem gpL_law_L_asks_wsL_asks_r6 : GoodIn wsL_law wsL_asks_r6 := goodIn_r _ [236, 237, 238, 239, 71, 72, 73, 68, 69, 240, 241, 242, 67, 243, 244, 245, 246, 247, 78, 77, 248, 79, 249, 250] rfl (by decide +kernel)
set_option maxRecDepth 100000 in
theorem gpL_law_L_asks_wsL_asks_r7 : GoodIn wsL_law wsL_asks_r7 := goodIn_r _ [251, 252, 253, 254, 255, 256, 257, 258, 259, 260, 261, 262, 263, 264, 265, 266, 267, 268, 269, 270, 55, 271, 272, 273] rfl (by decide +kernel)
set_option maxRecDepth 100000 in
theorem gpL_law_L_asks_wsL_asks_r8 : GoodIn wsL_law wsL_asks_r8 := goodIn_r _ [274, 275, 276, 277, 278, 279, 280, 281, 282, 283, 284, 285, 286, 70, 287, 288, 289, 290, 291, 292, 293, 294, 295, 296] rfl (by decide +kernel)
set_option maxRecDepth 100000 in
theorem gpL_law_L_asks_wsL_asks_r9 : GoodIn wsL_law wsL_asks_r9 := goodIn_r _ [297, 298, 299, 300, 301, 302, 303, 304, 305, 306, 307, 308, 309, 310, 311, 312, 313, 314, 315, 316, 317, 318, 319, 320] rfl (by decide +kernel)
set_option maxRecDepth 100000 in
theorem gpL_law_L_asks_wsL_asks_r10 : GoodIn wsL_law wsL_asks_r10 := goodIn_r _ [321, 322, 323, 324, 325, 326, 327, 328, 329, 330, 331, 332, 333, 334, 335, 336, 337, 338, 339, 340, 341, 342, 343, 344] rfl (by decide +kernel)
set_option maxRecDepth 100000 in
theorem gpL_law_L_asks_wsL_asks_r11 : GoodIn wsL_law wsL_asks_r11 := goodIn_r _ [345, 346, 347, 348, 349, 350, 47, 46, 351, 352, 353, 45, 354, 115, 116, 107, 108, 110, 355, 356, 357, 358, 117, 359] rfl (by decide +kernel)
set_option maxRecDepth 100000 in
theorem gpL_law_L_asks_wsL_asks_r12 : GoodIn wsL_law wsL_asks_r12 := goodIn_r _ [112, 360, 361, 362, 363, 114, 364, 365, 366, 367, 368, 369, 370, 371, 372, 373, 374, 375, 376, 377, 378, 379, 380, 381] rfl (by decide +kernel)
set_option maxRecDepth 100000 in
theorem gpL_law_L_asks_wsL_asks_r13 : GoodIn wsL_law wsL_asks_r13 := goodIn_r _ [382, 383, 384, 385, 386, 387, 388, 389, 390, 391, 392, 393, 394, 395, 396, 397, 398, 399, 400, 401, 402, 403, 404, 405] rfl (by decide +kernel)
set_option maxRecDepth 100000 in
theorem gpL_law_L_asks_wsL_asks_r14 : GoodIn wsL_law wsL_asks_r14 := goodIn_r _ [406, 407, 408, 409, 410, 411, 412, 413, 414, 415, 416, 417, 418, 419, 420, 421, 422, 423, 424, 425, 426, 427, 428, 429] rfl (by decide +kernel)
set_option maxRecDepth 100000 in
theorem gpL_law_L_asks_wsL_asks_r15 : GoodIn wsL_law wsL_asks_r15 := goodIn_r _ [430, 431, 432, 433, 434, 435, 436, 437, 438, 439, 440, 441, 30, 442, 443, 444, 445, 446, 447, 29, 448, 84, 449, 450] rfl (by decide +kernel)
set_option maxRecDepth 100000 in
theorem gpL_law_L_asks_wsL_asks_r16 : GoodIn wsL_law wsL_asks_r16 := goodIn_r _ [451, 452, 453, 454, 455, 456, 457, 458, 459, 460, 461, 462, 463, 464, 465, 466, 34, 467, 468, 469, 470, 33, 471, 92] rfl (by decide +kernel)
set_option maxRecDepth 100000 in
theorem gpL_law_L_asks_wsL_asks_r17 : GoodIn wsL_law wsL_asks_r17 := goodIn_r _ [472, 88, 473, 474, 475, 476, 477, 478, 479, 480, 481, 482, 483, 484, 485, 486, 487, 488, 90, 489, 490, 491, 492, 493] rfl (by decide +kernel)
set_option maxRecDepth 100000 in
theorem gpL_law_L_asks_wsL_asks_r18 : GoodIn wsL_law wsL_asks_r18 := goodIn_r _ [494, 495, 496, 497, 498, 499, 500, 501, 502, 503, 504, 505, 506, 507, 508, 509, 510, 511, 512, 513, 514, 515, 516, 517] rfl (by decide +kernel)
set_option maxRecDepth 100000 in
theorem gpL_law_L_asks_wsL_asks_r19 : GoodIn wsL_law wsL_asks_r19 := goodIn_r _ [518, 519, 91, 520, 521, 522, 523, 524, 38, 525, 526, 527, 528, 37, 529, 96, 97, 530, 531, 532, 533, 534, 535, 536] rfl (by decide +kernel)
set_option maxRecDepth 100000 in
theorem gpL_law_L_asks_wsL_asks_r20 : GoodIn wsL_law wsL_asks_r20 := goodIn_r _ [537, 538, 539, 540, 541, 542, 543, 544, 545, 546, 42, 547, 548, 549, 550, 551, 41, 552, 103, 101, 553, 554, 555, 556] rfl (by decide +kernel)
set_option maxRecDepth 100000 in
theorem gpL_law_L_asks_wsL_asks_r21 : GoodIn wsL_law wsL_asks_r21 := goodIn_r _ [102, 557, 558, 559, 560, 561, 562, 563, 564, 565, 566, 567, 568, 569, 570, 571, 572, 573, 574, 575, 576, 577, 578, 579] rfl (by decide +kernel)
set_option maxRecDepth 100000 in
theorem gpL_law_L_asks_wsL_asks_r22 : GoodIn wsL_law wsL_asks_r22 := goodIn_r _ [580, 581, 582, 583, 584, 585, 586, 587, 588, 589, 590, 591, 592, 593, 594, 595, 596, 597, 598, 599, 600, 601, 602, 603] rfl (by decide +kernel)
set_option maxRecDepth 100000 in
theorem gpL_law_L_asks_wsL_asks_r23 : GoodIn wsL_law wsL_asks_r23 := goodIn_r _ [122, 604, 605, 606, 607, 608, 609, 610, 611, 612, 613, 614, 615, 616, 617, 618, 619, 620, 621, 622, 623, 624, 625, 626] rfl (by decide +kernel)
set_option maxRecDepth 100000 in
theorem gpL_law_L_asks_wsL_asks_r24 : GoodIn wsL_law wsL_asks_r24 := goodIn_r _ [627] rfl (by decide +kernel)
set_option maxRecDepth 100000 in
theorem gpL_law_L_asks_wsX90 : GoodIn wsL_law wsX90 := goodIn_r _ [810, 811, 812, 813, 814, 815, 816, 817] rfl (by decide +kernel)
set_option maxRecDepth 100000 in
theorem gpL_law_L_asks_wsX40 : GoodIn wsL_law wsX40 := goodIn_r _ [818] rfl (by decide +kernel)
set_option maxRecDepth 100000 in
theorem gpL_law_L_asks_wsX50 : GoodIn wsL_law wsX50 := goodIn_r _ [819, 820, 821] rfl (by decide +kernel)
set_option maxRecDepth 100000 in
theorem gpL_law_L_asks_wsX10 : GoodIn wsL_law wsX10 := goodIn_r _ [840, 841, 842, 843, 844, 845] rfl (by decide +kernel)
set_option maxRecDepth 100000 in
theorem gpL_law_L_asks_wsX80 : GoodIn wsL_law wsX80 := goodIn_r _ [846, 847, 848] rfl (by decide +kernel)
set_option maxRecDepth 100000 in
theorem gpL_law_L_asks_wsX30 : GoodIn wsL_law wsX30 := goodIn_r _ [832, 833, 834, 835, 836, 837, 838, 839] rfl (by decide +kernel)
set_option maxRecDepth 100000 in
theorem gpL_law_L_asks_wsX00 : GoodIn wsL_law wsX00 := goodIn_r _ [822] rfl (by decide +kernel)
set_option maxRecDepth 100000 in
theorem gpL_law_L_asks_wsX20 : GoodIn wsL_law wsX20 := goodIn_r _ [823, 824, 825, 826] rfl (by decide +kernel)
set_option maxRecDepth 100000 in
theorem gpL_law_L_asks_wsX60 : GoodIn wsL_law wsX60 := goodIn_r _ [827, 828] rfl (by decide +kernel)
set_option maxRecDepth 100000 in
theorem gpL_law_L_asks_wsX70 : GoodIn wsL_law wsX70 := goodIn_r _ [829, 830, 831] rfl (by decide +kernel)
set_option maxRecDepth 100000 in
theorem ggL_law_L_asks : GoodIn wsL_law wsL_asks := goodIn_ca (goodIn_ca (goodIn_ca (goodIn_cons (goodIn_r [_] [125] rfl (by decide +kernel)) (goodIn_app (goodIn_app (goodIn_app (goodIn_app (goodIn_app (goodIn_app (goodIn_app (goodIn_app (goodIn_app (goodIn_app (goodIn_app gpL_law_L_asks_wsL_asks_r1 (goodIn_app gpL_law_L_asks_wsL_asks_r2 (goodIn_app gpL_law_L_asks_wsL_asks_r3 (goodIn_app gpL_law_L_asks_wsL_asks_r4 (goodIn_app gpL_law_L_asks_wsL_asks_r5 (goodIn_app gpL_law_L_asks_wsL_asks_r6 (goodIn_app gpL_law_L_asks_wsL_asks_r7 (goodIn_app gpL_law_L_asks_wsL_asks_r8 (goodIn_app gpL_law_L_asks_wsL_asks_r9 (goodIn_app gpL_law_L_asks_wsL_asks_r10 (goodIn_app gpL_law_L_asks_wsL_asks_r11 (goodIn_app gpL_law_L_asks_wsL_asks_r12 (goodIn_app gpL_law_L_asks_wsL_asks_r13 (goodIn_app gpL_law_L_asks_wsL_asks_r14 (goodIn_app gpL_law_L_asks_wsL_asks_r15 (goodIn_app gpL_law_L_asks_wsL_asks_r16 (goodIn_app gpL_law_L_asks_wsL_asks_r17 (goodIn_app gpL_law_L_asks_wsL_asks_r18 (goodIn_app gpL_law_L_asks_wsL_asks_r19 (goodIn_app gpL_law_L_asks_wsL_asks_r20 (goodIn_app gpL_law_L_asks_wsL_asks_r21 (goodIn_app gpL_law_L_asks_wsL_asks_r22 (goodIn_app gpL_law_L_asks_wsL_asks_r23 (gpL_law_L_asks_wsL_asks_r24)))))))))))))))))))))))) gpL_law_L_asks_wsX90) gpL_law_L_asks_wsX40) gpL_law_L_asks_wsX50) gpL_law_L_asks_wsX10) gpL_law_L_asks_wsX80) gpL_law_L_asks_wsX30) gpL_law_L_asks_wsX00) gpL_law_L_asks_wsX20) gpL_law_L_asks_wsX60) gpL_law_L_asks_wsX70)) (goodIn_sub (fun _ h => List.mem_append_left _ (List.mem_append_left _ (List.mem_append_right _ h))) (by decide +kernel))) (goodIn_sub (fun _ h => List.mem_append_left _ (List.mem_append_right _ h)) (by decide +kernel))) (goodIn_sub (fun _ h => List.mem_append_right _ h) (by decide +kernel))
set_option maxRecDepth 20000 in
theorem gL_law_L_asks : GoodIn wsL_law (va_wsS RL 161 yL_asks wsL_asks) := goodIn_app (goodIn_of _ (by decide +kernel)) ggL_law_L_asks
set_option maxRecDepth 100000 in
theorem ggL_law_L_draw : GoodIn wsL_law wsL_draw := goodIn_r _ [634, 12, 635] rfl (by decide +kernel)
set_option maxRecDepth 20000 in
theorem gL_law_L_draw : GoodIn wsL_law (va_wsS RL 13 yL_draw wsL_draw) := goodIn_app (goodIn_of _ (by decide +kernel)) ggL_law_L_draw
set_option maxRecDepth 100000 in
theorem gpL_law_L_isBond_wsL_isBond_r1 : GoodIn wsL_law wsL_isBond_r1 := goodIn_r _ [743, 744, 55, 644, 745, 746, 4, 632, 633, 7, 634, 12, 635, 680, 681, 682, 666, 667, 668, 669, 670, 671, 2, 672] rfl (by decide +kernel)
set_option maxRecDepth 100000 in
theorem gpL_law_L_isBond_wsL_isBond_r2 : GoodIn wsL_law wsL_isBond_r2 := goodIn_r _ [26, 195, 196, 197, 25, 198, 56, 673, 674, 675, 676, 677, 678, 263, 679, 171, 172, 173, 174, 175, 176, 177, 139, 140] rfl (by decide +kernel)
set_option maxRecDepth 100000 in
theorem gpL_law_L_isBond_wsL_isBond_r3 : GoodIn wsL_law wsL_isBond_r3 := goodIn_r _ [141, 142, 143, 144, 145, 146, 178, 179, 180, 181, 182, 183, 162, 163, 164, 165, 184, 185, 186, 187, 599, 600, 601, 602] rfl (by decide +kernel)
set_option maxRecDepth 100000 in
theorem gpL_law_L_isBond_wsL_isBond_r4 : GoodIn wsL_law wsL_isBond_r4 := goodIn_r _ [603, 22, 122, 438, 439, 440, 441, 30, 442, 443, 444, 203, 204, 205, 206, 445, 446, 447, 29, 448, 84, 449, 450, 451] rfl (by decide +kernel)
set_option maxRecDepth 100000 in
theorem gpL_law_L_isBond_wsL_isBond_r5 : GoodIn wsL_law wsL_isBond_r5 := goodIn_r _ [452, 453, 454, 225, 226, 59, 227, 228, 229, 230, 231, 232, 233, 234, 153, 235, 236, 237, 238, 239, 71, 72, 73, 68] rfl (by decide +kernel)
set_option maxRecDepth 100000 in
theorem gpL_law_L_isBond_wsL_isBond_r6 : GoodIn wsL_law wsL_isBond_r6 := goodIn_r _ [69, 240, 241, 242, 67, 243, 244, 245, 246, 247, 78, 77, 248, 79, 455, 250, 251, 252, 253, 254, 255, 256, 257, 258] rfl (by decide +kernel)
set_option maxRecDepth 100000 in
theorem gpL_law_L_isBond_wsL_isBond_r7 : GoodIn wsL_law wsL_isBond_r7 := goodIn_r _ [259, 260, 261, 262, 264, 265, 266, 267, 268, 269, 270, 271, 272, 273, 274, 275, 276, 277, 278, 279, 280, 281, 282, 212] rfl (by decide +kernel)
set_option maxRecDepth 100000 in
theorem gpL_law_L_isBond_wsL_isBond_r8 : GoodIn wsL_law wsL_isBond_r8 := goodIn_r _ [213, 456, 284, 285, 286, 70, 287, 288, 289, 290, 291, 457, 294, 295, 21, 296, 297, 170, 298, 299, 300, 301, 302, 303] rfl (by decide +kernel)
set_option maxRecDepth 100000 in
theorem gpL_law_L_isBond_wsL_isBond_r9 : GoodIn wsL_law wsL_isBond_r9 := goodIn_r _ [304, 305, 306, 307, 308, 309, 310, 311, 312, 313, 314, 315, 316, 317, 318, 319, 320, 321, 322, 155, 156, 157, 158, 159] rfl (by decide +kernel)
set_option maxRecDepth 100000 in
theorem gpL_law_L_isBond_wsL_isBond_r10 : GoodIn wsL_law wsL_isBond_r10 := goodIn_r _ [160, 161, 51, 166, 167, 168, 169, 199, 200, 201, 202, 207, 208, 209, 210, 211, 60, 214, 215, 216, 217, 218, 219, 220] rfl (by decide +kernel)
set_option maxRecDepth 100000 in
theorem gpL_law_L_isBond_wsL_isBond_r11 : GoodIn wsL_law wsL_isBond_r11 := goodIn_r _ [221, 222, 223, 224, 249, 283, 292, 293, 585, 586, 587, 588, 136, 589, 590, 591, 592, 593, 594, 595, 596, 597, 598, 623] rfl (by decide +kernel)
set_option maxRecDepth 100000 in
theorem gpL_law_L_isBond_wsL_isBond_r12 : GoodIn wsL_law wsL_isBond_r12 := goodIn_r _ [624, 625, 626, 627, 342, 343, 344, 345] rfl (by decide +kernel)
set_option maxRecDepth 100000 in
theorem gpL_law_L_isBond_wsX90 : GoodIn wsL_law wsX90 := goodIn_r _ [810, 811, 812, 813, 814, 815, 816, 817] rfl (by decide +kernel)
set_option maxRecDepth 100000 in
theorem gpL_law_L_isBond_wsX50 : GoodIn wsL_law wsX50 := goodIn_r _ [819, 820, 821] rfl (by decide +kernel)
set_option maxRecDepth 100000 in
theorem gpL_law_L_isBond_wsX40 : GoodIn wsL_law wsX40 := goodIn_r _ [818] rfl (by decide +kernel)
set_option maxRecDepth 100000 in
theorem gpL_law_L_isBond_wsX00 : GoodIn wsL_law wsX00 := goodIn_r _ [822] rfl (by decide +kernel)
set_option maxRecDepth 100000 in
theorem gpL_law_L_isBond_wsX10 : GoodIn wsL_law wsX10 := goodIn_r _ [840, 841, 842, 843, 844, 845] rfl (by decide +kernel)
set_option maxRecDepth 100000 in
theorem gpL_law_L_isBond_wsX80 : GoodIn wsL_law wsX80 := goodIn_r _ [846, 847, 848] rfl (by decide +kernel)
set_option maxRecDepth 100000 in
theorem ggL_law_L_isBond : GoodIn wsL_law wsL_isBond := goodIn_ca (goodIn_ca (goodIn_cons (goodIn_r [_] [742] rfl (by decide +kernel)) (goodIn_app (goodIn_app (goodIn_app (goodIn_app (goodIn_app (goodIn_app (goodIn_app gpL_law_L_isBond_wsL_isBond_r1 (goodIn_app gpL_law_L_isBond_wsL_isBond_r2 (goodIn_app gpL_law_L_isBond_wsL_isBond_r3 (goodIn_app gpL_law_L_isBond_wsL_isBond_r4 (goodIn_app gpL_law_L_isBond_wsL_isBond_r5 (goodIn_app gpL_law_L_isBond_wsL_isBond_r6 (goodIn_app gpL_law_L_isBond_wsL_isBond_r7 (goodIn_app gpL_law_L_isBond_wsL_isBond_r8 (goodIn_app gpL_law_L_isBond_wsL_isBond_r9 (goodIn_app gpL_law_L_isBond_wsL_isBond_r10 (goodIn_app gpL_law_L_isBond_wsL_isBond_r11 (gpL_law_L_isBond_wsL_isBond_r12)))))))))))) gpL_law_L_isBond_wsX90) gpL_law_L_isBond_wsX50) gpL_law_L_isBond_wsX40) gpL_law_L_isBond_wsX00) gpL_law_L_isBond_wsX10) gpL_law_L_isBond_wsX80)) (goodIn_sub (fun _ h => List.mem_append_left _ (List.mem_append_left _ (List.mem_append_right _ h))) (by decide +kernel))) (goodIn_sub (fun _ h => List.mem_append_left _ (List.mem_append_right _ h)) (by decide +kernel))
set_option maxRecDepth 20000 in
theorem gL_law_L_isBond : GoodIn wsL_law (va_wsS RL 289 yL_isBond wsL_isBond) := goodIn_app (goodIn_of _ (by decide +kernel)) ggL_law_L_isBond
set_option maxRecDepth 100000 in
theorem gpL_law_L_isKept_wsL_isKept_r1 : GoodIn wsL_law wsL_isKept_r1 := goodIn_r _ [640, 3, 661, 648, 599, 600, 601, 2, 602, 603, 22, 122, 139, 140, 141, 142, 143, 144, 145, 146, 632, 633, 7, 634] rfl (by decide +kernel)
set_option maxRecDepth 100000 in
theorem gpL_law_L_isKept_wsL_isKept_r2 : GoodIn wsL_law wsL_isKept_r2 := goodIn_r _ [12, 635, 346, 347, 348, 349, 177, 350, 47, 46, 203, 204, 205, 206, 351, 352, 353, 45, 354, 115, 116, 107, 108, 110] rfl (by decide +kernel)
set_option maxRecDepth 100000 in
theorem gpL_law_L_isKept_wsL_isKept_r3 : GoodIn wsL_law wsL_isKept_r3 := goodIn_r _ [355, 356, 357, 358, 117, 359, 112, 360, 361, 362, 363, 114, 364, 365, 225, 226, 59, 227, 228, 229, 230, 231, 232, 233] rfl (by decide +kernel)
set_option maxRecDepth 100000 in
theorem gpL_law_L_isKept_wsL_isKept_r4 : GoodIn wsL_law wsL_isKept_r4 := goodIn_r _ [234, 153, 235, 236, 237, 238, 239, 71, 72, 73, 68, 69, 240, 241, 242, 67, 243, 244, 245, 246, 247, 78, 77, 248] rfl (by decide +kernel)
set_option maxRecDepth 100000 in
theorem gpL_law_L_isKept_wsL_isKept_r5 : GoodIn wsL_law wsL_isKept_r5 := goodIn_r _ [79, 366, 250, 251, 252, 253, 254, 255, 256, 257, 258, 259, 260, 261, 262, 263, 264, 265, 266, 267, 268, 269, 270, 55] rfl (by decide +kernel)
set_option maxRecDepth 100000 in
theorem gpL_law_L_isKept_wsL_isKept_r6 : GoodIn wsL_law wsL_isKept_r6 := goodIn_r _ [271, 272, 273, 274, 275, 276, 277, 278, 279, 280, 281, 282, 212, 213, 367, 284, 285, 286, 70, 287, 288, 289, 290, 291] rfl (by decide +kernel)
set_option maxRecDepth 100000 in
theorem gpL_law_L_isKept_wsL_isKept_r7 : GoodIn wsL_law wsL_isKept_r7 := goodIn_r _ [368, 294, 295, 21, 296, 297, 170, 298, 299, 300, 301, 302, 303, 304, 305, 306, 307, 308, 309, 310, 311, 312, 313, 314] rfl (by decide +kernel)
set_option maxRecDepth 100000 in
theorem gpL_law_L_isKept_wsL_isKept_r8 : GoodIn wsL_law wsL_isKept_r8 := goodIn_r _ [315, 316, 317, 318, 319, 320, 321, 322, 155, 156, 157, 158, 159, 160, 161, 51, 162, 163, 164, 165, 166, 167, 168, 169] rfl (by decide +kernel)
set_option maxRecDepth 100000 in
theorem gpL_law_L_isKept_wsL_isKept_r9 : GoodIn wsL_law wsL_isKept_r9 := goodIn_r _ [369, 148, 149, 150, 151, 152, 154, 370, 371, 372, 373, 374, 375, 376, 377, 378, 379, 380, 381, 382, 383, 384, 123, 124] rfl (by decide +kernel)
set_option maxRecDepth 100000 in
theorem gpL_law_L_isKept_wsL_isKept_r10 : GoodIn wsL_law wsL_isKept_r10 := goodIn_r _ [125, 126, 127, 128, 129, 130, 131, 132, 133, 134, 135, 136, 137, 138, 147, 171, 172, 173, 174, 175, 176, 26, 178, 179] rfl (by decide +kernel)
set_option maxRecDepth 100000 in
theorem gpL_law_L_isKept_wsL_isKept_r11 : GoodIn wsL_law wsL_isKept_r11 := goodIn_r _ [180, 25, 181, 56, 182, 183, 184, 185, 186, 187, 188, 189, 190, 191, 192, 193, 194, 195, 196, 197, 198, 199, 200, 201] rfl (by decide +kernel)
set_option maxRecDepth 100000 in
theorem gpL_law_L_isKept_wsL_isKept_r12 : GoodIn wsL_law wsL_isKept_r12 := goodIn_r _ [202, 207, 208, 209, 210, 211, 60, 214, 215, 216, 217, 218, 219, 220, 221, 222, 223, 224, 249, 283, 292, 293, 323, 324] rfl (by decide +kernel)
set_option maxRecDepth 100000 in
theorem gpL_law_L_isKept_wsL_isKept_r13 : GoodIn wsL_law wsL_isKept_r13 := goodIn_r _ [325, 326, 327, 328, 329, 330, 331, 332, 333, 334, 335, 336, 337, 338, 339, 340, 341, 342, 343, 344, 345, 385, 386, 387] rfl (by decide +kernel)
set_option maxRecDepth 100000 in
theorem gpL_law_L_isKept_wsL_isKept_r14 : GoodIn wsL_law wsL_isKept_r14 := goodIn_r _ [388, 389, 390, 391, 392, 393, 394, 395, 396, 397, 398, 399, 400, 401, 402, 403, 404, 405, 406, 407, 408, 409, 410, 411] rfl (by decide +kernel)
set_option maxRecDepth 100000 in
theorem gpL_law_L_isKept_wsL_isKept_r15 : GoodIn wsL_law wsL_isKept_r15 := goodIn_r _ [412, 413, 414, 415, 416, 417, 418, 419, 420, 421, 422, 423, 424, 425, 426, 427, 428, 429, 430, 431, 432, 433, 434, 435] rfl (by decide +kernel)
set_option maxRecDepth 100000 in
theorem gpL_law_L_isKept_wsL_isKept_r16 : GoodIn wsL_law wsL_isKept_r16 := goodIn_r _ [436, 437, 438, 439, 440, 441, 30, 442, 443, 444, 445, 446, 447, 29, 448, 84, 449, 450, 451, 452, 453, 454, 455, 456] rfl (by decide +kernel)
set_option maxRecDepth 100000 in
theorem gpL_law_L_isKept_wsL_isKept_r17 : GoodIn wsL_law wsL_isKept_r17 := goodIn_r _ [457, 458, 459, 460, 461, 462, 463, 464, 465, 466, 34, 467, 468, 469, 470, 33, 471, 92, 472, 88, 473, 474, 475, 476] rfl (by decide +kernel)
set_option maxRecDepth 100000 in
theorem gpL_law_L_isKept_wsL_isKept_r18 : GoodIn wsL_law wsL_isKept_r18 := goodIn_r _ [477, 478, 479, 480, 481, 482, 483, 484, 485, 486, 487, 488, 90, 489, 490, 491, 492, 493, 494, 495, 496, 497, 498, 499] rfl (by decide +kernel)
set_option maxRecDepth 100000 in
theorem gpL_law_L_isKept_wsL_isKept_r19 : GoodIn wsL_law wsL_isKept_r19 := goodIn_r _ [500, 501, 502, 503, 504, 505, 506, 507, 508, 509, 510, 511, 512, 513, 514, 515, 516, 517, 518, 519, 91, 520, 521, 522] rfl (by decide +kernel)
set_option maxRecDepth 100000 in
theorem gpL_law_L_isKept_wsL_isKept_r20 : GoodIn wsL_law wsL_isKept_r20 := goodIn_r _ [523, 524, 38, 525, 526, 527, 528, 37, 529, 96, 97, 530, 531, 532, 533, 534, 535, 536, 537, 538, 539, 540, 541, 542] rfl (by decide +kernel)
set_option maxRecDepth 100000 in
theorem gpL_law_L_isKept_wsL_isKept_r21 : GoodIn wsL_law wsL_isKept_r21 := goodIn_r _ [543, 544, 545, 546, 42, 547, 548, 549, 550, 551, 41, 552, 103, 101, 553, 554, 555, 556, 102, 557, 558, 559, 560, 561] rfl (by decide +kernel)
set_option maxRecDepth 100000 in
theorem gpL_law_L_isKept_wsL_isKept_r22 : GoodIn wsL_law wsL_isKept_r22 := goodIn_r _ [562, 563, 564, 565, 566, 567, 568, 569, 570, 571, 572, 573, 574, 575, 576, 577, 578, 579, 580, 581, 582, 583, 584, 585] rfl (by decide +kernel)
set_option maxRecDepth 100000 in
theorem gpL_law_L_isKept_wsL_isKept_r23 : GoodIn wsL_law wsL_isKept_r23 := goodIn_r _ [586, 587, 588, 589, 590, 591, 592, 593, 594, 595, 596, 597, 598, 604, 605, 606, 607, 608, 609, 610, 611, 612, 613, 614] rfl (by decide +kernel)
set_option maxRecDepth 100000 in
theorem gpL_law_L_isKept_wsL_isKept_r24 : GoodIn wsL_law wsL_isKept_r24 := goodIn_r _ [615, 616, 617, 618, 619, 620, 621, 622, 623, 624, 625, 626, 627] rfl (by decide +kernel)
set_option maxRecDepth 100000 in
theorem gpL_law_L_isKept_wsX90 : GoodIn wsL_law wsX90 := goodIn_r _ [810, 811, 812, 813, 814, 815, 816, 817] rfl (by decide +kernel)
set_option maxRecDepth 100000 in
theorem gpL_law_L_isKept_wsX40 : GoodIn wsL_law wsX40 := goodIn_r _ [818] rfl (by decide +kernel)
set_option maxRecDepth 100000 in
theorem gpL_law_L_isKept_wsX30 : GoodIn wsL_law wsX30 := goodIn_r _ [832, 833, 834, 835, 836, 837, 838, 839] rfl (by decide +kernel)
set_option maxRecDepth 100000 in
theorem gpL_law_L_isKept_wsX10 : GoodIn wsL_law wsX10 := goodIn_r _ [840, 841, 842, 843, 844, 845] rfl (by decide +kernel)
set_option maxRecDepth 100000 in
theorem gpL_law_L_isKept_wsX80 : GoodIn wsL_law wsX80 := goodIn_r _ [846, 847, 848] rfl (by decide +kernel)
set_option maxRecDepth 100000 in
theorem gpL_law_L_isKept_wsX50 : GoodIn wsL_law wsX50 := goodIn_r _ [819, 820, 821] rfl (by decide +kernel)
set_option maxRecDepth 100000 in
theorem gpL_law_L_isKept_wsX00 : GoodIn wsL_law wsX00 := goodIn_r _ [822] rfl (by decide +kernel)
set_option maxRecDepth 100000 in
theorem gpL_law_L_isKept_wsX20 : GoodIn wsL_law wsX20 := goodIn_r _ [823, 824, 825, 826] rfl (by decide +kernel)
set_option maxRecDepth 100000 in
theorem gpL_law_L_isKept_wsX60 : GoodIn wsL_law wsX60 := goodIn_r _ [827, 828] rfl (by decide +kernel)
set_option maxRecDepth 100000 in
theorem gpL_law_L_isKept_wsX70 : GoodIn wsL_law wsX70 := goodIn_r _ [829, 830, 831] rfl (by decide +kernel)
set_option maxRecDepth 100000 in
theorem ggL_law_L_isKept : GoodIn wsL_law wsL_isKept := goodIn_ca (goodIn_ca (goodIn_ca (goodIn_cons (goodIn_r [_] [792] rfl (by decide +kernel)) (goodIn_app (goodIn_app (goodIn_app (goodIn_app (goodIn_app (goodIn_app (goodIn_app (goodIn_app (goodIn_app (goodIn_app (goodIn_app gpL_law_L_isKept_wsL_isKept_r1 (goodIn_app gpL_law_L_isKept_wsL_isKept_r2 (goodIn_app gpL_law_L_isKept_wsL_isKept_r3 (goodIn_app gpL_law_L_isKept_wsL_isKept_r4 (goodIn_app gpL_law_L_isKept_wsL_isKept_r5 (goodIn_app gpL_law_L_isKept_wsL_isKept_r6 (goodIn_app gpL_law_L_isKept_wsL_isKept_r7 (goodIn_app gpL_law_L_isKept_wsL_isKept_r8 (goodIn_app gpL_law_L_isKept_wsL_isKept_r9 (goodIn_app gpL_law_L_isKept_wsL_isKept_r10 (goodIn_app gpL_law_L_isKept_wsL_isKept_r11 (goodIn_app gpL_law_L_isKept_wsL_isKept_r12 (goodIn_app gpL_law_L_isKept_wsL_isKept_r13 (goodIn_app gpL_law_L_isKept_wsL_isKept_r14 (goodIn_app gpL_law_L_isKept_wsL_isKept_r15 (goodIn_app gpL_law_L_isKept_wsL_isKept_r16 (goodIn_app gpL_law_L_isKept_wsL_isKept_r17 (goodIn_app gpL_law_L_isKept_wsL_isKept_r18 (goodIn_app gpL_law_L_isKept_wsL_isKept_r19 (goodIn_app gpL_law_L_isKept_wsL_isKept_r20 (goodIn_app gpL_law_L_isKept_wsL_isKept_r21 (goodIn_app gpL_law_L_isKept_wsL_isKept_r22 (goodIn_app gpL_law_L_isKept_wsL_isKept_r23 (gpL_law_L_isKept_wsL_isKept_r24)))))))))))))))))))))))) gpL_law_L_isKept_wsX90) gpL_law_L_isKept_wsX40) gpL_law_L_isKept_wsX30) gpL_law_L_isKept_wsX10) gpL_law_L_isKept_wsX80) gpL_law_L_isKept_wsX50) gpL_law_L_isKept_wsX00) gpL_law_L_isKept_wsX20) gpL_law_L_isKept_wsX60) gpL_law_L_isKept_wsX70)) (goodIn_sub (fun _ h => List.mem_append_left _ (List.mem_append_left _ (List.mem_append_right _ h))) (by decide +kernel))) (goodIn_sub (fun _ h => List.mem_append_left _ (List.mem_append_right _ h)) (by decide +kernel))) (goodIn_sub (fun _ h => List.mem_append_right _ h) (by decide +kernel))
set_option maxRecDepth 20000 in
theorem gL_law_L_isKept : GoodIn wsL_law (va_wsS RL 301 yL_isKept wsL_isKept) := goodIn_app (goodIn_of _ (by decide +kernel)) ggL_law_L_isKept
set_option maxRecDepth 100000 in
theorem gpL_law_L_isLife_wsL_isLife_r1 : GoodIn wsL_law wsL_isLife_r1 := goodIn_r _ [9, 750, 212, 153, 213, 661, 129, 751, 130, 4, 3, 118, 119, 120, 2, 121, 22, 122, 752, 753, 754, 755, 34, 756] rfl (by decide +kernel)
set_option maxRecDepth 100000 in
theorem gpL_law_L_isLife_wsL_isLife_r2 : GoodIn wsL_law wsL_isLife_r2 := goodIn_r _ [757, 758, 33, 759, 92, 632, 633, 7, 634, 12, 635, 463, 464, 465, 466, 467, 468, 469, 470, 471, 472, 88, 139, 140] rfl (by decide +kernel)
set_option maxRecDepth 100000 in
theorem gpL_law_L_isLife_wsL_isLife_r3 : GoodIn wsL_law wsL_isLife_r3 := goodIn_r _ [141, 142, 143, 144, 145, 146, 331, 162, 163, 164, 165, 473, 474, 475, 476, 680, 681, 682, 123, 124, 125, 126, 127, 128] rfl (by decide +kernel)
set_option maxRecDepth 100000 in
theorem gpL_law_L_isLife_wsL_isLife_r4 : GoodIn wsL_law wsL_isLife_r4 := goodIn_r _ [131, 132, 133, 134, 135, 136, 137, 138, 147, 148, 149, 21, 150, 151, 152, 154, 155, 156, 157, 158, 159, 160, 161, 51] rfl (by decide +kernel)
set_option maxRecDepth 100000 in
theorem gpL_law_L_isLife_wsL_isLife_r5 : GoodIn wsL_law wsL_isLife_r5 := goodIn_r _ [166, 167, 168, 169, 170, 171, 172, 173, 174, 175, 176, 177, 26, 178, 179, 180, 25, 181, 56, 182, 183, 184, 185, 186] rfl (by decide +kernel)
set_option maxRecDepth 100000 in
theorem gpL_law_L_isLife_wsL_isLife_r6 : GoodIn wsL_law wsL_isLife_r6 := goodIn_r _ [187, 188, 189, 190, 191, 192, 193, 194, 195, 196, 197, 198, 199, 200, 201, 202, 203, 204, 205, 206, 207, 208, 209, 210] rfl (by decide +kernel)
set_option maxRecDepth 100000 in
theorem gpL_law_L_isLife_wsL_isLife_r7 : GoodIn wsL_law wsL_isLife_r7 := goodIn_r _ [211, 60, 214, 215, 216, 217, 218, 219, 220, 221, 222, 223, 224, 225, 226, 59, 227, 228, 229, 230, 231, 232, 233, 234] rfl (by decide +kernel)
set_option maxRecDepth 100000 in
theorem gpL_law_L_isLife_wsL_isLife_r8 : GoodIn wsL_law wsL_isLife_r8 := goodIn_r _ [235, 236, 237, 238, 239, 71, 72, 73, 68, 69, 240, 241, 242, 67, 243, 244, 245, 246, 247, 78, 77, 248, 79, 249] rfl (by decide +kernel)
set_option maxRecDepth 100000 in
theorem gpL_law_L_isLife_wsL_isLife_r9 : GoodIn wsL_law wsL_isLife_r9 := goodIn_r _ [250, 251, 252, 253, 254, 255, 256, 257, 258, 259, 260, 261, 262, 263, 264, 265, 266, 267, 268, 269, 270, 55, 271, 272] rfl (by decide +kernel)
set_option maxRecDepth 100000 in
theorem gpL_law_L_isLife_wsL_isLife_r10 : GoodIn wsL_law wsL_isLife_r10 := goodIn_r _ [273, 274, 275, 276, 277, 278, 279, 280, 281, 282, 283, 284, 285, 286, 70, 287, 288, 289, 290, 291, 292, 293, 294, 295] rfl (by decide +kernel)
set_option maxRecDepth 100000 in
theorem gpL_law_L_isLife_wsL_isLife_r11 : GoodIn wsL_law wsL_isLife_r11 := goodIn_r _ [296, 297, 298, 299, 300, 301, 302, 303, 304, 305, 306, 307, 308, 309, 310, 311, 312, 313, 314, 315, 316, 317, 318, 319] rfl (by decide +kernel)
set_option maxRecDepth 100000 in
theorem gpL_law_L_isLife_wsL_isLife_r12 : GoodIn wsL_law wsL_isLife_r12 := goodIn_r _ [320, 321, 322, 323, 324, 325, 326, 327, 328, 329, 330, 332, 333, 334, 335, 336, 337, 338, 339, 340, 341, 342, 343, 344] rfl (by decide +kernel)
set_option maxRecDepth 100000 in
theorem gpL_law_L_isLife_wsL_isLife_r13 : GoodIn wsL_law wsL_isLife_r13 := goodIn_r _ [345, 346, 347, 348, 349, 350, 47, 46, 351, 352, 353, 45, 354, 115, 116, 107, 108, 110, 355, 356, 357, 358, 117, 359] rfl (by decide +kernel)
set_option maxRecDepth 100000 in
theorem gpL_law_L_isLife_wsL_isLife_r14 : GoodIn wsL_law wsL_isLife_r14 := goodIn_r _ [112, 360, 361, 362, 363, 114, 364, 365, 366, 367, 368, 369, 370, 371, 372, 373, 374, 375, 376, 377, 378, 379, 380, 381] rfl (by decide +kernel)
set_option maxRecDepth 100000 in
theorem gpL_law_L_isLife_wsL_isLife_r15 : GoodIn wsL_law wsL_isLife_r15 := goodIn_r _ [382, 383, 384, 385, 386, 387, 388, 389, 390, 391, 392, 393, 394, 395, 396, 397, 398, 399, 400, 401, 402, 403, 404, 405] rfl (by decide +kernel)
set_option maxRecDepth 100000 in
theorem gpL_law_L_isLife_wsL_isLife_r16 : GoodIn wsL_law wsL_isLife_r16 := goodIn_r _ [406, 407, 408, 409, 410, 411, 412, 413, 414, 415, 416, 417, 418, 419, 420, 421, 422, 423, 424, 425, 426, 427, 428, 429] rfl (by decide +kernel)
set_option maxRecDepth 100000 in
theorem gpL_law_L_isLife_wsL_isLife_r17 : GoodIn wsL_law wsL_isLife_r17 := goodIn_r _ [430, 431, 432, 433, 434, 435, 436, 437, 438, 439, 440, 441, 30, 442, 443, 444, 445, 446, 447, 29, 448, 84, 449, 450] rfl (by decide +kernel)
set_option maxRecDepth 100000 in
theorem gpL_law_L_isLife_wsL_isLife_r18 : GoodIn wsL_law wsL_isLife_r18 := goodIn_r _ [451, 452, 453, 454, 455, 456, 457, 458, 459, 460, 461, 462, 477, 478, 479, 480, 481, 482, 483, 484, 485, 486, 487, 488] rfl (by decide +kernel)
set_option maxRecDepth 100000 in
theorem gpL_law_L_isLife_wsL_isLife_r19 : GoodIn wsL_law wsL_isLife_r19 := goodIn_r _ [90, 489, 490, 491, 492, 493, 494, 495, 496, 497, 498, 499, 500, 501, 502, 503, 504, 505, 506, 507, 508, 509, 510, 511] rfl (by decide +kernel)
set_option maxRecDepth 100000 in
theorem gpL_law_L_isLife_wsL_isLife_r20 : GoodIn wsL_law wsL_isLife_r20 := goodIn_r _ [512, 513, 514, 515, 516, 517, 518, 519, 91, 520, 521, 522, 523, 524, 38, 525, 526, 527, 528, 37, 529, 96, 97, 530] rfl (by decide +kernel)
set_option maxRecDepth 100000 in
theorem gpL_law_L_isLife_wsL_isLife_r21 : GoodIn wsL_law wsL_isLife_r21 := goodIn_r _ [531, 532, 533, 534, 535, 536, 537, 538, 539, 540, 541, 542, 543, 544, 545, 546, 42, 547, 548, 549, 550, 551, 41, 552] rfl (by decide +kernel)
set_option maxRecDepth 100000 in
theorem gpL_law_L_isLife_wsL_isLife_r22 : GoodIn wsL_law wsL_isLife_r22 := goodIn_r _ [103, 101, 553, 554, 555, 556, 102, 557, 558, 559, 560, 561, 562, 563, 564, 565, 566, 567, 568, 569, 570, 571, 572, 573] rfl (by decide +kernel)
set_option maxRecDepth 100000 in
theorem gpL_law_L_isLife_wsL_isLife_r23 : GoodIn wsL_law wsL_isLife_r23 := goodIn_r _ [574, 575, 576, 577, 578, 579, 580, 581, 582, 583, 584, 585, 586, 587, 588, 589, 590, 591, 592, 593, 594, 595, 596, 597] rfl (by decide +kernel)
set_option maxRecDepth 100000 in
theorem gpL_law_L_isLife_wsL_isLife_r24 : GoodIn wsL_law wsL_isLife_r24 := goodIn_r _ [598, 599, 600, 601, 602, 603, 604, 605, 606, 607, 608, 609, 610, 611, 612, 613, 614, 615, 616, 617, 618, 619, 620, 621] rfl (by decide +kernel)
set_option maxRecDepth 100000 in
theorem gpL_law_L_isLife_wsL_isLife_r25 : GoodIn wsL_law wsL_isLife_r25 := goodIn_r _ [622, 623, 624, 625, 626, 627, 645, 646, 647, 648, 649, 650, 651, 652, 653, 654, 655, 656, 693, 694, 695, 696, 697, 698] rfl (by decide +kernel)
set_option maxRecDepth 100000 in
theorem gpL_law_L_isLife_wsL_isLife_r26 : GoodIn wsL_law wsL_isLife_r26 := goodIn_r _ [699, 700, 701, 61, 702, 703, 704, 705, 706, 707, 708, 709, 710, 711, 712, 713, 714, 715, 716, 717, 718, 719, 720, 721] rfl (by decide +kernel)
set_option maxRecDepth 100000 in
theorem gpL_law_L_isLife_wsL_isLife_r27 : GoodIn wsL_law wsL_isLife_r27 := goodIn_r _ [722, 723] rfl (by decide +kernel)
set_option maxRecDepth 100000 in
theorem gpL_law_L_isLife_wsX90 : GoodIn wsL_law wsX90 := goodIn_r _ [810, 811, 812, 813, 814, 815, 816, 817] rfl (by decide +kernel)
set_option maxRecDepth 100000 in
theorem gpL_law_L_isLife_wsX40 : GoodIn wsL_law wsX40 := goodIn_r _ [818] rfl (by decide +kernel)
set_option maxRecDepth 100000 in
theorem gpL_law_L_isLife_wsX20 : GoodIn wsL_law wsX20 := goodIn_r _ [823, 824, 825, 826] rfl (by decide +kernel)
set_option maxRecDepth 100000 in
theorem gpL_law_L_isLife_wsX50 : GoodIn wsL_law wsX50 := goodIn_r _ [819, 820, 821] rfl (by decide +kernel)
set_option maxRecDepth 100000 in
theorem gpL_law_L_isLife_wsX10 : GoodIn wsL_law wsX10 := goodIn_r _ [840, 841, 842, 843, 844, 845] rfl (by decide +kernel)
set_option maxRecDepth 100000 in
theorem gpL_law_L_isLife_wsX80 : GoodIn wsL_law wsX80 := goodIn_r _ [846, 847, 848] rfl (by decide +kernel)
set_option maxRecDepth 100000 in
theorem gpL_law_L_isLife_wsX30 : GoodIn wsL_law wsX30 := goodIn_r _ [832, 833, 834, 835, 836, 837, 838, 839] rfl (by decide +kernel)
set_option maxRecDepth 100000 in
theorem gpL_law_L_isLife_wsX00 : GoodIn wsL_law wsX00 := goodIn_r _ [822] rfl (by decide +kernel)
set_option maxRecDepth 100000 in
theorem gpL_law_L_isLife_wsX60 : GoodIn wsL_law wsX60 := goodIn_r _ [827, 828] rfl (by decide +kernel)
set_option maxRecDepth 100000 in
theorem gpL_law_L_isLife_wsX70 : GoodIn wsL_law wsX70 := goodIn_r _ [829, 830, 831] rfl (by decide +kernel)
set_option maxRecDepth 100000 in
theorem ggL_law_L_isLife : GoodIn wsL_law wsL_isLife := goodIn_ca (goodIn_ca (goodIn_ca (goodIn_cons (goodIn_r [_] [749] rfl (by decide +kernel)) (goodIn_app (goodIn_app (goodIn_app (goodIn_app (goodIn_app (goodIn_app (goodIn_app (goodIn_app (goodIn_app (goodIn_app (goodIn_app gpL_law_L_isLife_wsL_isLife_r1 (goodIn_app gpL_law_L_isLife_wsL_isLife_r2 (goodIn_app gpL_law_L_isLife_wsL_isLife_r3 (goodIn_app gpL_law_L_isLife_wsL_isLife_r4 (goodIn_app gpL_law_L_isLife_wsL_isLife_r5 (goodIn_app gpL_law_L_isLife_wsL_isLife_r6 (goodIn_app gpL_law_L_isLife_wsL_isLife_r7 (goodIn_app gpL_law_L_isLife_wsL_isLife_r8 (goodIn_app gpL_law_L_isLife_wsL_isLife_r9 (goodIn_app gpL_law_L_isLife_wsL_isLife_r10 (goodIn_app gpL_law_L_isLife_wsL_isLife_r11 (goodIn_app gpL_law_L_isLife_wsL_isLife_r12 (goodIn_app gpL_law_L_isLife_wsL_isLife_r13 (goodIn_app gpL_law_L_isLife_wsL_isLife_r14 (goodIn_app gpL_law_L_isLife_wsL_isLife_r15 (goodIn_app gpL_law_L_isLife_wsL_isLife_r16 (goodIn_app gpL_law_L_isLife_wsL_isLife_r17 (goodIn_app gpL_law_L_isLife_wsL_isLife_r18 (goodIn_app gpL_law_L_isLife_wsL_isLife_r19 (goodIn_app gpL_law_L_isLife_wsL_isLife_r20 (goodIn_app gpL_law_L_isLife_wsL_isLife_r21 (goodIn_app gpL_law_L_isLife_wsL_isLife_r22 (goodIn_app gpL_law_L_isLife_wsL_isLife_r23 (goodIn_app gpL_law_L_isLife_wsL_isLife_r24 (goodIn_app gpL_law_L_isLife_wsL_isLife_r25 (goodIn_app gpL_law_L_isLife_wsL_isLife_r26 (gpL_law_L_isLife_wsL_isLife_r27))))))))))))))))))))))))))) gpL_law_L_isLife_wsX90) gpL_law_L_isLife_wsX40) gpL_law_L_isLife_wsX20) gpL_law_L_isLife_wsX50) gpL_law_L_isLife_wsX10) gpL_law_L_isLife_wsX80) gpL_law_L_isLife_wsX30) gpL_law_L_isLife_wsX00) gpL_law_L_isLife_wsX60) gpL_law_L_isLife_wsX70)) (goodIn_sub (fun _ h => List.mem_append_left _ (List.mem_append_left _ (List.mem_append_right _ h))) (by decide +kernel))) (goodIn_sub (fun _ h => List.mem_append_left _ (List.mem_append_right _ h)) (by decide +kernel))) (goodIn_sub (fun _ h => List.mem_append_right _ h) (by decide +kernel))
set_option maxRecDepth 20000 in
theorem gL_law_L_isLife : GoodIn wsL_law (va_wsS RL 292 yL_isLife wsL_isLife) := goodIn_app (goodIn_of _ (by decide +kernel)) ggL_law_L_isLife
set_option maxRecDepth 100000 in
theorem gpL_law_L_isLoan_wsL_isLoan_r1 : GoodIn wsL_law wsL_isLoan_r1 := goodIn_r _ [727, 640, 109, 9, 55, 3, 661, 728, 375, 153, 376, 118, 119, 120, 2, 121, 22, 122, 632, 633, 7, 634, 12, 635] rfl (by decide +kernel)
set_option maxRecDepth 100000 in
theorem gpL_law_L_isLoan_wsL_isLoan_r2 : GoodIn wsL_law wsL_isLoan_r2 := goodIn_r _ [680, 681, 682, 346, 347, 348, 349, 177, 350, 47, 46, 139, 140, 141, 142, 143, 144, 145, 146, 203, 204, 205, 206, 351] rfl (by decide +kernel)
set_option maxRecDepth 100000 in
theorem gpL_law_L_isLoan_wsL_isLoan_r3 : GoodIn wsL_law wsL_isLoan_r3 := goodIn_r _ [352, 353, 45, 354, 115, 116, 107, 108, 110, 355, 356, 357, 358, 117, 359, 112, 360, 361, 362, 363, 114, 364, 365, 225] rfl (by decide +kernel)
set_option maxRecDepth 100000 in
theorem gpL_law_L_isLoan_wsL_isLoan_r4 : GoodIn wsL_law wsL_isLoan_r4 := goodIn_r _ [226, 59, 227, 228, 229, 230, 231, 232, 233, 234, 235, 236, 237, 238, 239, 71, 72, 73, 68, 69, 240, 241, 242, 67] rfl (by decide +kernel)
set_option maxRecDepth 100000 in
theorem gpL_law_L_isLoan_wsL_isLoan_r5 : GoodIn wsL_law wsL_isLoan_r5 := goodIn_r _ [243, 244, 245, 246, 247, 78, 77, 248, 79, 366, 250, 251, 252, 253, 254, 255, 256, 257, 258, 259, 260, 261, 262, 263] rfl (by decide +kernel)
set_option maxRecDepth 100000 in
theorem gpL_law_L_isLoan_wsL_isLoan_r6 : GoodIn wsL_law wsL_isLoan_r6 := goodIn_r _ [264, 265, 266, 267, 268, 269, 270, 271, 272, 273, 274, 275, 276, 277, 278, 279, 280, 281, 282, 212, 213, 367, 284, 285] rfl (by decide +kernel)
set_option maxRecDepth 100000 in
theorem gpL_law_L_isLoan_wsL_isLoan_r7 : GoodIn wsL_law wsL_isLoan_r7 := goodIn_r _ [286, 70, 287, 288, 289, 290, 291, 368, 294, 295, 21, 296, 297, 170, 298, 299, 300, 301, 302, 303, 304, 305, 306, 307] rfl (by decide +kernel)
set_option maxRecDepth 100000 in
theorem gpL_law_L_isLoan_wsL_isLoan_r8 : GoodIn wsL_law wsL_isLoan_r8 := goodIn_r _ [308, 309, 310, 311, 312, 313, 314, 315, 316, 317, 318, 319, 320, 321, 322, 155, 156, 157, 158, 159, 160, 161, 51, 162] rfl (by decide +kernel)
set_option maxRecDepth 100000 in
theorem gpL_law_L_isLoan_wsL_isLoan_r9 : GoodIn wsL_law wsL_isLoan_r9 := goodIn_r _ [163, 164, 165, 166, 167, 168, 169, 369, 148, 149, 150, 151, 152, 154, 370, 371, 372, 373, 374, 377, 378, 379, 380, 381] rfl (by decide +kernel)
set_option maxRecDepth 100000 in
theorem gpL_law_L_isLoan_wsL_isLoan_r10 : GoodIn wsL_law wsL_isLoan_r10 := goodIn_r _ [382, 383, 384, 123, 124, 125, 126, 127, 128, 129, 130, 131, 132, 133, 134, 135, 136, 137, 138, 147, 171, 172, 173, 174] rfl (by decide +kernel)
set_option maxRecDepth 100000 in
theorem gpL_law_L_isLoan_wsL_isLoan_r11 : GoodIn wsL_law wsL_isLoan_r11 := goodIn_r _ [175, 176, 26, 178, 179, 180, 25, 181, 56, 182, 183, 184, 185, 186, 187, 188, 189, 190, 191, 192, 193, 194, 195, 196] rfl (by decide +kernel)
set_option maxRecDepth 100000 in
theorem gpL_law_L_isLoan_wsL_isLoan_r12 : GoodIn wsL_law wsL_isLoan_r12 := goodIn_r _ [197, 198, 199, 200, 201, 202, 207, 208, 209, 210, 211, 60, 214, 215, 216, 217, 218, 219, 220, 221, 222, 223, 224, 249] rfl (by decide +kernel)
set_option maxRecDepth 100000 in
theorem gpL_law_L_isLoan_wsL_isLoan_r13 : GoodIn wsL_law wsL_isLoan_r13 := goodIn_r _ [283, 292, 293, 323, 324, 325, 326, 327, 328, 329, 330, 331, 332, 333, 334, 335, 336, 337, 338, 339, 340, 341, 342, 343] rfl (by decide +kernel)
set_option maxRecDepth 100000 in
theorem gpL_law_L_isLoan_wsL_isLoan_r14 : GoodIn wsL_law wsL_isLoan_r14 := goodIn_r _ [344, 345, 385, 386, 387, 388, 389, 390, 391, 392, 393, 394, 395, 396, 397, 398, 399, 400, 401, 402, 403, 404, 405, 406] rfl (by decide +kernel)
set_option maxRecDepth 100000 in
theorem gpL_law_L_isLoan_wsL_isLoan_r15 : GoodIn wsL_law wsL_isLoan_r15 := goodIn_r _ [407, 408, 409, 410, 411, 412, 413, 414, 415, 416, 417, 418, 419, 420, 421, 422, 423, 424, 425, 426, 427, 428, 429, 430] rfl (by decide +kernel)
set_option maxRecDepth 100000 in
theorem gpL_law_L_isLoan_wsL_isLoan_r16 : GoodIn wsL_law wsL_isLoan_r16 := goodIn_r _ [431, 432, 433, 434, 435, 436, 437, 438, 439, 440, 441, 30, 442, 443, 444, 445, 446, 447, 29, 448, 84, 449, 450, 451] rfl (by decide +kernel)
set_option maxRecDepth 100000 in
theorem gpL_law_L_isLoan_wsL_isLoan_r17 : GoodIn wsL_law wsL_isLoan_r17 := goodIn_r _ [452, 453, 454, 455, 456, 457, 458, 459, 460, 461, 462, 463, 464, 465, 466, 34, 467, 468, 469, 470, 33, 471, 92, 472] rfl (by decide +kernel)
set_option maxRecDepth 100000 in
theorem gpL_law_L_isLoan_wsL_isLoan_r18 : GoodIn wsL_law wsL_isLoan_r18 := goodIn_r _ [88, 473, 474, 475, 476, 477, 478, 479, 480, 481, 482, 483, 484, 485, 486, 487, 488, 90, 489, 490, 491, 492, 493, 494] rfl (by decide +kernel)
set_option maxRecDepth 100000 in
theorem gpL_law_L_isLoan_wsL_isLoan_r19 : GoodIn wsL_law wsL_isLoan_r19 := goodIn_r _ [495, 496, 497, 498, 499, 500, 501, 502, 503, 504, 505, 506, 507, 508, 509, 510, 511, 512, 513, 514, 515, 516, 517, 518] rfl (by decide +kernel)
set_option maxRecDepth 100000 in
theorem gpL_law_L_isLoan_wsL_isLoan_r20 : GoodIn wsL_law wsL_isLoan_r20 := goodIn_r _ [519, 91, 520, 521, 522, 523, 524, 38, 525, 526, 527, 528, 37, 529, 96, 97, 530, 531, 532, 533, 534, 535, 536, 537] rfl (by decide +kernel)
set_option maxRecDepth 100000 in
theorem gpL_law_L_isLoan_wsL_isLoan_r21 : GoodIn wsL_law wsL_isLoan_r21 := goodIn_r _ [538, 539, 540, 541, 542, 543, 544, 545, 546, 42, 547, 548, 549, 550, 551, 41, 552, 103, 101, 553, 554, 555, 556, 102] rfl (by decide +kernel)
set_option maxRecDepth 100000 in
theorem gpL_law_L_isLoan_wsL_isLoan_r22 : GoodIn wsL_law wsL_isLoan_r22 := goodIn_r _ [557, 558, 559, 560, 561, 562, 563, 564, 565, 566, 567, 568, 569, 570, 571, 572, 573, 574, 575, 576, 577, 578, 579, 580] rfl (by decide +kernel)
set_option maxRecDepth 100000 in
theorem gpL_law_L_isLoan_wsL_isLoan_r23 : GoodIn wsL_law wsL_isLoan_r23 := goodIn_r _ [581, 582, 583, 584, 585, 586, 587, 588, 589, 590, 591, 592, 593, 594, 595, 596, 597, 598, 599, 600, 601, 602, 603, 604] rfl (by decide +kernel)
set_option maxRecDepth 100000 in
theorem gpL_law_L_isLoan_wsL_isLoan_r24 : GoodIn wsL_law wsL_isLoan_r24 := goodIn_r _ [605, 606, 607, 608, 609, 610, 611, 612, 613, 614, 615, 616, 617, 618, 619, 620, 621, 622, 623, 624, 625, 626, 627, 729] rfl (by decide +kernel)
set_option maxRecDepth 100000 in
theorem gpL_law_L_isLoan_wsL_isLoan_r25 : GoodIn wsL_law wsL_isLoan_r25 := goodIn_r _ [730, 731, 732, 733, 734, 735, 648, 645, 646, 647, 649, 650, 651, 652, 653, 654, 655, 656, 736, 737, 738, 739, 669, 670] rfl (by decide +kernel)
set_option maxRecDepth 100000 in
theorem gpL_law_L_isLoan_wsL_isLoan_r26 : GoodIn wsL_law wsL_isLoan_r26 := goodIn_r _ [671, 672, 673, 674, 675, 676, 677, 678, 679, 628, 629, 630, 631, 693, 694, 695, 696, 697, 698, 699, 700, 701, 61, 702] rfl (by decide +kernel)
set_option maxRecDepth 100000 in
theorem gpL_law_L_isLoan_wsL_isLoan_r27 : GoodIn wsL_law wsL_isLoan_r27 := goodIn_r _ [703, 704, 705, 706, 707, 708, 709, 710, 711, 712, 713, 714, 715, 716, 717, 718, 719, 720, 721, 722, 723] rfl (by decide +kernel)
set_option maxRecDepth 100000 in
theorem gpL_law_L_isLoan_wsX90 : GoodIn wsL_law wsX90 := goodIn_r _ [810, 811, 812, 813, 814, 815, 816, 817] rfl (by decide +kernel)
set_option maxRecDepth 100000 in
theorem gpL_law_L_isLoan_wsX40 : GoodIn wsL_law wsX40 := goodIn_r _ [818] rfl (by decide +kernel)
set_option maxRecDepth 100000 in
theorem gpL_law_L_isLoan_wsX30 : GoodIn wsL_law wsX30 := goodIn_r _ [832, 833, 834, 835, 836, 837, 838, 839] rfl (by decide +kernel)
set_option maxRecDepth 100000 in
theorem gpL_law_L_isLoan_wsX10 : GoodIn wsL_law wsX10 := goodIn_r _ [840, 841, 842, 843, 844, 845] rfl (by decide +kernel)
set_option maxRecDepth 100000 in
theorem gpL_law_L_isLoan_wsX80 : GoodIn wsL_law wsX80 := goodIn_r _ [846, 847, 848] rfl (by decide +kernel)
set_option maxRecDepth 100000 in
theorem gpL_law_L_isLoan_wsX50 : GoodIn wsL_law wsX50 := goodIn_r _ [819, 820, 821] rfl (by decide +kernel)
set_option maxRecDepth 100000 in
theorem gpL_law_L_isLoan_wsX00 : GoodIn wsL_law wsX00 := goodIn_r _ [822] rfl (by decide +kernel)
set_option maxRecDepth 100000 in
theorem gpL_law_L_isLoan_wsX20 : GoodIn wsL_law wsX20 := goodIn_r _ [823, 824, 825, 826] rfl (by decide +kernel)
set_option maxRecDepth 100000 in
theorem gpL_law_L_isLoan_wsX60 : GoodIn wsL_law wsX60 := goodIn_r _ [827, 828] rfl (by decide +kernel)
set_option maxRecDepth 100000 in
theorem gpL_law_L_isLoan_wsX70 : GoodIn wsL_law wsX70 := goodIn_r _ [829, 830, 831] rfl (by decide +kernel)
set_option maxRecDepth 100000 in
theorem ggL_law_L_isLoan : GoodIn wsL_law wsL_isLoan := goodIn_ca (goodIn_ca (goodIn_ca (goodIn_cons (goodIn_r [_] [726] rfl (by decide +kernel)) (goodIn_app (goodIn_app (goodIn_app (goodIn_app (goodIn_app (goodIn_app (goodIn_app (goodIn_app (goodIn_app (goodIn_app (goodIn_app gpL_law_L_isLoan_wsL_isLoan_r1 (goodIn_app gpL_law_L_isLoan_wsL_isLoan_r2 (goodIn_app gpL_law_L_isLoan_wsL_isLoan_r3 (goodIn_app gpL_law_L_isLoan_wsL_isLoan_r4 (goodIn_app gpL_law_L_isLoan_wsL_isLoan_r5 (goodIn_app gpL_law_L_isLoan_wsL_isLoan_r6 (goodIn_app gpL_law_L_isLoan_wsL_isLoan_r7 (goodIn_app gpL_law_L_isLoan_wsL_isLoan_r8 (goodIn_app gpL_law_L_isLoan_wsL_isLoan_r9 (goodIn_app gpL_law_L_isLoan_wsL_isLoan_r10 (goodIn_app gpL_law_L_isLoan_wsL_isLoan_r11 (goodIn_app gpL_law_L_isLoan_wsL_isLoan_r12 (goodIn_app gpL_law_L_isLoan_wsL_isLoan_r13 (goodIn_app gpL_law_L_isLoan_wsL_isLoan_r14 (goodIn_app gpL_law_L_isLoan_wsL_isLoan_r15 (goodIn_app gpL_law_L_isLoan_wsL_isLoan_r16 (goodIn_app gpL_law_L_isLoan_wsL_isLoan_r17 (goodIn_app gpL_law_L_isLoan_wsL_isLoan_r18 (goodIn_app gpL_law_L_isLoan_wsL_isLoan_r19 (goodIn_app gpL_law_L_isLoan_wsL_isLoan_r20 (goodIn_app gpL_law_L_isLoan_wsL_isLoan_r21 (goodIn_app gpL_law_L_isLoan_wsL_isLoan_r22 (goodIn_app gpL_law_L_isLoan_wsL_isLoan_r23 (goodIn_app gpL_law_L_isLoan_wsL_isLoan_r24 (goodIn_app gpL_law_L_isLoan_wsL_isLoan_r25 (goodIn_app gpL_law_L_isLoan_wsL_isLoan_r26 (gpL_law_L_isLoan_wsL_isLoan_r27))))))))))))))))))))))))))) gpL_law_L_isLoan_wsX90) gpL_law_L_isLoan_wsX40) gpL_law_L_isLoan_wsX30) gpL_law_L_isLoan_wsX10) gpL_law_L_isLoan_wsX80) gpL_law_L_isLoan_wsX50) gpL_law_L_isLoan_wsX00) gpL_law_L_isLoan_wsX20) gpL_law_L_isLoan_wsX60) gpL_law_L_isLoan_wsX70)) (goodIn_sub (fun _ h => List.mem_append_left _ (List.mem_append_left _ (List.mem_append_right _ h))) (by decide +kernel))) (goodIn_sub (fun _ h => List.mem_append_left _ (List.mem_append_right _ h)) (by decide +kernel))) (goodIn_sub (fun _ h => List.mem_append_right _ h) (by decide +kernel))
set_option maxRecDepth 20000 in
theorem gL_law_L_isLoan : GoodIn wsL_law (va_wsS RL 286 yL_isLoan wsL_isLoan) := goodIn_app (goodIn_of _ (by decide +kernel)) ggL_law_L_isLoan
set_option maxRecDepth 100000 in
theorem gpL_law_L_isParted_wsL_isParted_r1 : GoodIn wsL_law wsL_isParted_r1 := goodIn_r _ [55, 640, 763, 764, 129, 4, 130, 728, 375, 153, 376, 765, 234, 235, 766, 767, 768, 2, 769, 38, 770, 771, 772, 37] rfl (by decide +kernel)
set_option maxRecDepth 100000 in
theorem gpL_law_L_isParted_wsL_isParted_r2 : GoodIn wsL_law wsL_isParted_r2 := goodIn_r _ [773, 97, 632, 633, 7, 634, 12, 635, 521, 522, 523, 524, 194, 525, 139, 140, 141, 142, 143, 144, 145, 146, 331, 162] rfl (by decide +kernel)
set_option maxRecDepth 100000 in
theorem gpL_law_L_isParted_wsL_isParted_r3 : GoodIn wsL_law wsL_isParted_r3 := goodIn_r _ [163, 164, 165, 526, 527, 528, 529, 96, 123, 124, 125, 126, 127, 128, 3, 131, 132, 133, 134, 135, 136, 137, 138, 22] rfl (by decide +kernel)
set_option maxRecDepth 100000 in
theorem gpL_law_L_isParted_wsL_isParted_r4 : GoodIn wsL_law wsL_isParted_r4 := goodIn_r _ [147, 148, 149, 21, 150, 151, 152, 154, 155, 156, 157, 158, 159, 160, 161, 51, 166, 167, 168, 169, 170, 171, 172, 173] rfl (by decide +kernel)
set_option maxRecDepth 100000 in
theorem gpL_law_L_isParted_wsL_isParted_r5 : GoodIn wsL_law wsL_isParted_r5 := goodIn_r _ [174, 175, 176, 177, 26, 178, 179, 180, 25, 181, 56, 182, 183, 184, 185, 186, 187, 188, 189, 190, 191, 192, 193, 195] rfl (by decide +kernel)
set_option maxRecDepth 100000 in
theorem gpL_law_L_isParted_wsL_isParted_r6 : GoodIn wsL_law wsL_isParted_r6 := goodIn_r _ [196, 197, 198, 199, 200, 201, 202, 203, 204, 205, 206, 207, 208, 209, 210, 211, 212, 213, 60, 214, 215, 216, 217, 218] rfl (by decide +kernel)
set_option maxRecDepth 100000 in
theorem gpL_law_L_isParted_wsL_isParted_r7 : GoodIn wsL_law wsL_isParted_r7 := goodIn_r _ [219, 220, 221, 222, 223, 224, 225, 226, 59, 227, 228, 229, 230, 231, 232, 233, 236, 237, 238, 239, 71, 72, 73, 68] rfl (by decide +kernel)
set_option maxRecDepth 100000 in
theorem gpL_law_L_isParted_wsL_isParted_r8 : GoodIn wsL_law wsL_isParted_r8 := goodIn_r _ [69, 240, 241, 242, 67, 243, 244, 245, 246, 247, 78, 77, 248, 79, 249, 250, 251, 252, 253, 254, 255, 256, 257, 258] rfl (by decide +kernel)
set_option maxRecDepth 100000 in
theorem gpL_law_L_isParted_wsL_isParted_r9 : GoodIn wsL_law wsL_isParted_r9 := goodIn_r _ [259, 260, 261, 262, 263, 264, 265, 266, 267, 268, 269, 270, 271, 272, 273, 274, 275, 276, 277, 278, 279, 280, 281, 282] rfl (by decide +kernel)
set_option maxRecDepth 100000 in
theorem gpL_law_L_isParted_wsL_isParted_r10 : GoodIn wsL_law wsL_isParted_r10 := goodIn_r _ [283, 284, 285, 286, 70, 287, 288, 289, 290, 291, 292, 293, 294, 295, 296, 297, 298, 299, 300, 301, 302, 303, 304, 305] rfl (by decide +kernel)
set_option maxRecDepth 100000 in
theorem gpL_law_L_isParted_wsL_isParted_r11 : GoodIn wsL_law wsL_isParted_r11 := goodIn_r _ [306, 307, 308, 309, 310, 311, 312, 313, 314, 315, 316, 317, 318, 319, 320, 321, 322, 323, 324, 325, 326, 327, 328, 329] rfl (by decide +kernel)
set_option maxRecDepth 100000 in
theorem gpL_law_L_isParted_wsL_isParted_r12 : GoodIn wsL_law wsL_isParted_r12 := goodIn_r _ [330, 332, 333, 334, 335, 336, 337, 338, 339, 340, 341, 342, 343, 344, 345, 346, 347, 348, 349, 350, 47, 46, 351, 352] rfl (by decide +kernel)
set_option maxRecDepth 100000 in
theorem gpL_law_L_isParted_wsL_isParted_r13 : GoodIn wsL_law wsL_isParted_r13 := goodIn_r _ [353, 45, 354, 115, 116, 107, 108, 110, 355, 356, 357, 358, 117, 359, 112, 360, 361, 362, 363, 114, 364, 365, 366, 367] rfl (by decide +kernel)
set_option maxRecDepth 100000 in
theorem gpL_law_L_isParted_wsL_isParted_r14 : GoodIn wsL_law wsL_isParted_r14 := goodIn_r _ [368, 369, 370, 371, 372, 373, 374, 377, 378, 379, 380, 381, 382, 383, 384, 385, 386, 387, 388, 389, 390, 391, 392, 393] rfl (by decide +kernel)
set_option maxRecDepth 100000 in
theorem gpL_law_L_isParted_wsL_isParted_r15 : GoodIn wsL_law wsL_isParted_r15 := goodIn_r _ [394, 395, 396, 397, 398, 399, 400, 401, 402, 403, 404, 405, 406, 407, 408, 409, 410, 411, 412, 413, 414, 415, 416, 417] rfl (by decide +kernel)
set_option maxRecDepth 100000 in
theorem gpL_law_L_isParted_wsL_isParted_r16 : GoodIn wsL_law wsL_isParted_r16 := goodIn_r _ [418, 419, 420, 421, 422, 423, 424, 425, 426, 427, 428, 429, 430, 431, 432, 433, 434, 435, 436, 437, 438, 439, 440, 441] rfl (by decide +kernel)
set_option maxRecDepth 100000 in
theorem gpL_law_L_isParted_wsL_isParted_r17 : GoodIn wsL_law wsL_isParted_r17 := goodIn_r _ [30, 442, 443, 444, 445, 446, 447, 29, 448, 84, 449, 450, 451, 452, 453, 454, 455, 456, 457, 458, 459, 460, 461, 462] rfl (by decide +kernel)
set_option maxRecDepth 100000 in
theorem gpL_law_L_isParted_wsL_isParted_r18 : GoodIn wsL_law wsL_isParted_r18 := goodIn_r _ [463, 464, 465, 466, 34, 467, 468, 469, 470, 33, 471, 92, 472, 88, 473, 474, 475, 476, 477, 478, 479, 480, 481, 482] rfl (by decide +kernel)
set_option maxRecDepth 100000 in
theorem gpL_law_L_isParted_wsL_isParted_r19 : GoodIn wsL_law wsL_isParted_r19 := goodIn_r _ [483, 484, 485, 486, 487, 488, 90, 489, 490, 491, 492, 493, 494, 495, 496, 497, 498, 499, 500, 501, 502, 503, 504, 505] rfl (by decide +kernel)
set_option maxRecDepth 100000 in
theorem gpL_law_L_isParted_wsL_isParted_r20 : GoodIn wsL_law wsL_isParted_r20 := goodIn_r _ [506, 507, 508, 509, 510, 511, 512, 513, 514, 515, 516, 517, 518, 519, 91, 520, 530, 531, 532, 533, 534, 535, 536, 537] rfl (by decide +kernel)
set_option maxRecDepth 100000 in
theorem gpL_law_L_isParted_wsL_isParted_r21 : GoodIn wsL_law wsL_isParted_r21 := goodIn_r _ [538, 539, 540, 541, 542, 543, 544, 545, 546, 42, 547, 548, 549, 550, 551, 41, 552, 103, 101, 553, 554, 555, 556, 102] rfl (by decide +kernel)
set_option maxRecDepth 100000 in
theorem gpL_law_L_isParted_wsL_isParted_r22 : GoodIn wsL_law wsL_isParted_r22 := goodIn_r _ [557, 558, 559, 560, 561, 562, 563, 564, 565, 566, 567, 568, 569, 570, 571, 572, 573, 574, 575, 576, 577, 578, 579, 580] rfl (by decide +kernel)
set_option maxRecDepth 100000 in
theorem gpL_law_L_isParted_wsL_isParted_r23 : GoodIn wsL_law wsL_isParted_r23 := goodIn_r _ [581, 582, 583, 584, 585, 586, 587, 588, 589, 590, 591, 592, 593, 594, 595, 596, 597, 598, 599, 600, 601, 602, 603, 122] rfl (by decide +kernel)
set_option maxRecDepth 100000 in
theorem gpL_law_L_isParted_wsL_isParted_r24 : GoodIn wsL_law wsL_isParted_r24 := goodIn_r _ [604, 605, 606, 607, 608, 609, 610, 611, 612, 613, 614, 615, 616, 617, 618, 619, 620, 621, 622, 623, 624, 625, 626, 627] rfl (by decide +kernel)
set_option maxRecDepth 100000 in
theorem gpL_law_L_isParted_wsX90 : GoodIn wsL_law wsX90 := goodIn_r _ [810, 811, 812, 813, 814, 815, 816, 817] rfl (by decide +kernel)
set_option maxRecDepth 100000 in
theorem gpL_law_L_isParted_wsX60 : GoodIn wsL_law wsX60 := goodIn_r _ [827, 828] rfl (by decide +kernel)
set_option maxRecDepth 100000 in
theorem gpL_law_L_isParted_wsX40 : GoodIn wsL_law wsX40 := goodIn_r _ [818] rfl (by decide +kernel)
set_option maxRecDepth 100000 in
theorem gpL_law_L_isParted_wsX50 : GoodIn wsL_law wsX50 := goodIn_r _ [819, 820, 821] rfl (by decide +kernel)
set_option maxRecDepth 100000 in
theorem gpL_law_L_isParted_wsX10 : GoodIn wsL_law wsX10 := goodIn_r _ [840, 841, 842, 843, 844, 845] rfl (by decide +kernel)
set_option maxRecDepth 100000 in
theorem gpL_law_L_isParted_wsX80 : GoodIn wsL_law wsX80 := goodIn_r _ [846, 847, 848] rfl (by decide +kernel)
set_option maxRecDepth 100000 in
theorem gpL_law_L_isParted_wsX30 : GoodIn wsL_law wsX30 := goodIn_r _ [832, 833, 834, 835, 836, 837, 838, 839] rfl (by decide +kernel)
set_option maxRecDepth 100000 in
theorem gpL_law_L_isParted_wsX00 : GoodIn wsL_law wsX00 := goodIn_r _ [822] rfl (by decide +kernel)
set_option maxRecDepth 100000 in
theorem gpL_law_L_isParted_wsX20 : GoodIn wsL_law wsX20 := goodIn_r _ [823, 824, 825, 826] rfl (by decide +kernel)
set_option maxRecDepth 100000 in
theorem gpL_law_L_isParted_wsX70 : GoodIn wsL_law wsX70 := goodIn_r _ [829, 830, 831] rfl (by decide +kernel)
set_option maxRecDepth 100000 in
theorem ggL_law_L_isParted : GoodIn wsL_law wsL_isParted := goodIn_ca (goodIn_ca (goodIn_ca (goodIn_cons (goodIn_r [_] [762] rfl (by decide +kernel)) (goodIn_app (goodIn_app (goodIn_app (goodIn_app (goodIn_app (goodIn_app (goodIn_app (goodIn_app (goodIn_app (goodIn_app (goodIn_app gpL_law_L_isParted_wsL_isParted_r1 (goodIn_app gpL_law_L_isParted_wsL_isParted_r2 (goodIn_app gpL_law_L_isParted_wsL_isParted_r3 (goodIn_app gpL_law_L_isParted_wsL_isParted_r4 (goodIn_app gpL_law_L_isParted_wsL_isParted_r5 (goodIn_app gpL_law_L_isParted_wsL_isParted_r6 (goodIn_app gpL_law_L_isParted_wsL_isParted_r7 (goodIn_app gpL_law_L_isParted_wsL_isParted_r8 (goodIn_app gpL_law_L_isParted_wsL_isParted_r9 (goodIn_app gpL_law_L_isParted_wsL_isParted_r10 (goodIn_app gpL_law_L_isParted_wsL_isParted_r11 (goodIn_app gpL_law_L_isParted_wsL_isParted_r12 (goodIn_app gpL_law_L_isParted_wsL_isParted_r13 (goodIn_app gpL_law_L_isParted_wsL_isParted_r14 (goodIn_app gpL_law_L_isParted_wsL_isParted_r15 (goodIn_app gpL_law_L_isParted_wsL_isParted_r16 (goodIn_app gpL_law_L_isParted_wsL_isParted_r17 (goodIn_app gpL_law_L_isParted_wsL_isParted_r18 (goodIn_app gpL_law_L_isParted_wsL_isParted_r19 (goodIn_app gpL_law_L_isParted_wsL_isParted_r20 (goodIn_app gpL_law_L_isParted_wsL_isParted_r21 (goodIn_app gpL_law_L_isParted_wsL_isParted_r22 (goodIn_app gpL_law_L_isParted_wsL_isParted_r23 (gpL_law_L_isParted_wsL_isParted_r24)))))))))))))))))))))))) gpL_law_L_isParted_wsX90) gpL_law_L_isParted_wsX60) gpL_law_L_isParted_wsX40) gpL_law_L_isParted_wsX50) gpL_law_L_isParted_wsX10) gpL_law_L_isParted_wsX80) gpL_law_L_isParted_wsX30) gpL_law_L_isParted_wsX00) gpL_law_L_isParted_wsX20) gpL_law_L_isParted_wsX70)) (goodIn_sub (fun _ h => List.mem_append_left _ (List.mem_append_left _ (List.mem_append_right _ h))) (by decide +kernel))) (goodIn_sub (fun _ h => List.mem_append_left _ (List.mem_append_right _ h)) (by decide +kernel))) (goodIn_sub (fun _ h => List.mem_append_right _ h) (by decide +kernel))
set_option maxRecDepth 20000 in
theorem gL_law_L_isParted : GoodIn wsL_law (va_wsS RL 295 yL_isParted wsL_isParted) := goodIn_app (goodIn_of _ (by decide +kernel)) ggL_law_L_isParted
set_option maxRecDepth 100000 in
theorem gpL_law_L_isRounded_wsL_isRounded_r1 : GoodIn wsL_law wsL_isRounded_r1 := goodIn_r _ [639, 640, 641, 642, 643, 644, 118, 119, 120, 2, 121, 22, 122, 632, 633, 7, 634, 12, 635, 645, 646, 647, 648, 3] rfl (by decide +kernel)
set_option maxRecDepth 100000 in
theorem gpL_law_L_isRounded_wsL_isRounded_r2 : GoodIn wsL_law wsL_isRounded_r2 := goodIn_r _ [649, 650, 651, 652, 653, 654, 655, 656, 123, 124, 125, 126, 127, 128, 129, 130, 131, 132, 133, 134, 135, 136, 137, 138] rfl (by decide +kernel)
set_option maxRecDepth 100000 in
theorem gpL_law_L_isRounded_wsL_isRounded_r3 : GoodIn wsL_law wsL_isRounded_r3 := goodIn_r _ [139, 140, 141, 142, 143, 144, 145, 146, 147, 148, 149, 21, 150, 151, 152, 153, 154, 155, 156, 157, 158, 159, 160, 161] rfl (by decide +kernel)
set_option maxRecDepth 100000 in
theorem gpL_law_L_isRounded_wsL_isRounded_r4 : GoodIn wsL_law wsL_isRounded_r4 := goodIn_r _ [51, 162, 163, 164, 165, 166, 167, 168, 169, 170, 171, 172, 173, 174, 175, 176, 177, 26, 178, 179, 180, 25, 181, 56] rfl (by decide +kernel)
set_option maxRecDepth 100000 in
theorem gpL_law_L_isRounded_wsL_isRounded_r5 : GoodIn wsL_law wsL_isRounded_r5 := goodIn_r _ [182, 183, 184, 185, 186, 187, 188, 189, 190, 191, 192, 193, 194, 195, 196, 197, 198, 199, 200, 201, 202, 203, 204, 205] rfl (by decide +kernel)
set_option maxRecDepth 100000 in
theorem gpL_law_L_isRounded_wsL_isRounded_r6 : GoodIn wsL_law wsL_isRounded_r6 := goodIn_r _ [206, 207, 208, 209, 210, 211, 212, 213, 60, 214, 215, 216, 217, 218, 219, 220, 221, 222, 223, 224, 225, 226, 59, 227] rfl (by decide +kernel)
set_option maxRecDepth 100000 in
theorem gpL_law_L_isRounded_wsL_isRounded_r7 : GoodIn wsL_law wsL_isRounded_r7 := goodIn_r _ [228, 229, 230, 231, 232, 233, 234, 235, 236, 237, 238, 239, 71, 72, 73, 68, 69, 240, 241, 242, 67, 243, 244, 245] rfl (by decide +kernel)
set_option maxRecDepth 100000 in
theorem gpL_law_L_isRounded_wsL_isRounded_r8 : GoodIn wsL_law wsL_isRounded_r8 := goodIn_r _ [246, 247, 78, 77, 248, 79, 249, 250, 251, 252, 253, 254, 255, 256, 257, 258, 259, 260, 261, 262, 263, 264, 265, 266] rfl (by decide +kernel)
set_option maxRecDepth 100000 in
theorem gpL_law_L_isRounded_wsL_isRounded_r9 : GoodIn wsL_law wsL_isRounded_r9 := goodIn_r _ [267, 268, 269, 270, 55, 271, 272, 273, 274, 275, 276, 277, 278, 279, 280, 281, 282, 283, 284, 285, 286, 70, 287, 288] rfl (by decide +kernel)
set_option maxRecDepth 100000 in
theorem gpL_law_L_isRounded_wsL_isRounded_r10 : GoodIn wsL_law wsL_isRounded_r10 := goodIn_r _ [289, 290, 291, 292, 293, 294, 295, 296, 297, 298, 299, 300, 301, 302, 303, 304, 305, 306, 307, 308, 309, 310, 311, 312] rfl (by decide +kernel)
set_option maxRecDepth 100000 in
theorem gpL_law_L_isRounded_wsL_isRounded_r11 : GoodIn wsL_law wsL_isRounded_r11 := goodIn_r _ [313, 314, 315, 316, 317, 318, 319, 320, 321, 322, 323, 324, 325, 326, 327, 328, 329, 330, 331, 332, 333, 334, 335, 336] rfl (by decide +kernel)
set_option maxRecDepth 100000 in
theorem gpL_law_L_isRounded_wsL_isRounded_r12 : GoodIn wsL_law wsL_isRounded_r12 := goodIn_r _ [337, 338, 339, 340, 341, 342, 343, 344, 345, 346, 347, 348, 349, 350, 47, 46, 351, 352, 353, 45, 354, 115, 116, 107] rfl (by decide +kernel)
set_option maxRecDepth 100000 in
theorem gpL_law_L_isRounded_wsL_isRounded_r13 : GoodIn wsL_law wsL_isRounded_r13 := goodIn_r _ [108, 110, 355, 356, 357, 358, 117, 359, 112, 360, 361, 362, 363, 114, 364, 365, 366, 367, 368, 369, 370, 371, 372, 373] rfl (by decide +kernel)
set_option maxRecDepth 100000 in
theorem gpL_law_L_isRounded_wsL_isRounded_r14 : GoodIn wsL_law wsL_isRounded_r14 := goodIn_r _ [374, 375, 376, 377, 378, 379, 380, 381, 382, 383, 384, 385, 386, 387, 388, 389, 390, 391, 392, 393, 394, 395, 396, 397] rfl (by decide +kernel)
set_option maxRecDepth 100000 in
theorem gpL_law_L_isRounded_wsL_isRounded_r15 : GoodIn wsL_law wsL_isRounded_r15 := goodIn_r _ [398, 399, 400, 401, 402, 403, 404, 405, 406, 407, 408, 409, 410, 411, 412, 413, 414, 415, 416, 417, 418, 419, 420, 421] rfl (by decide +kernel)
set_option maxRecDepth 100000 in
theorem gpL_law_L_isRounded_wsL_isRounded_r16 : GoodIn wsL_law wsL_isRounded_r16 := goodIn_r _ [422, 423, 424, 425, 426, 427, 428, 429, 430, 431, 432, 433, 434, 435, 436, 437, 438, 439, 440, 441, 30, 442, 443, 444] rfl (by decide +kernel)
set_option maxRecDepth 100000 in
theorem gpL_law_L_isRounded_wsL_isRounded_r17 : GoodIn wsL_law wsL_isRounded_r17 := goodIn_r _ [445, 446, 447, 29, 448, 84, 449, 450, 451, 452, 453, 454, 455, 456, 457, 458, 459, 460, 461, 462, 463, 464, 465, 466] rfl (by decide +kernel)
set_option maxRecDepth 100000 in
theorem gpL_law_L_isRounded_wsL_isRounded_r18 : GoodIn wsL_law wsL_isRounded_r18 := goodIn_r _ [34, 467, 468, 469, 470, 33, 471, 92, 472, 88, 473, 474, 475, 476, 477, 478, 479, 480, 481, 482, 483, 484, 485, 486] rfl (by decide +kernel)
set_option maxRecDepth 100000 in
theorem gpL_law_L_isRounded_wsL_isRounded_r19 : GoodIn wsL_law wsL_isRounded_r19 := goodIn_r _ [487, 488, 90, 489, 490, 491, 492, 493, 494, 495, 496, 497, 498, 499, 500, 501, 502, 503, 504, 505, 506, 507, 508, 509] rfl (by decide +kernel)
set_option maxRecDepth 100000 in
theorem gpL_law_L_isRounded_wsL_isRounded_r20 : GoodIn wsL_law wsL_isRounded_r20 := goodIn_r _ [510, 511, 512, 513, 514, 515, 516, 517, 518, 519, 91, 520, 521, 522, 523, 524, 38, 525, 526, 527, 528, 37, 529, 96] rfl (by decide +kernel)
set_option maxRecDepth 100000 in
theorem gpL_law_L_isRounded_wsL_isRounded_r21 : GoodIn wsL_law wsL_isRounded_r21 := goodIn_r _ [97, 530, 531, 532, 533, 534, 535, 536, 537, 538, 539, 540, 541, 542, 543, 544, 545, 546, 42, 547, 548, 549, 550, 551] rfl (by decide +kernel)
set_option maxRecDepth 100000 in
theorem gpL_law_L_isRounded_wsL_isRounded_r22 : GoodIn wsL_law wsL_isRounded_r22 := goodIn_r _ [41, 552, 103, 101, 553, 554, 555, 556, 102, 557, 558, 559, 560, 561, 562, 563, 564, 565, 566, 567, 568, 569, 570, 571] rfl (by decide +kernel)
set_option maxRecDepth 100000 in
theorem gpL_law_L_isRounded_wsL_isRounded_r23 : GoodIn wsL_law wsL_isRounded_r23 := goodIn_r _ [572, 573, 574, 575, 576, 577, 578, 579, 580, 581, 582, 583, 584, 585, 586, 587, 588, 589, 590, 591, 592, 593, 594, 595] rfl (by decide +kernel)
set_option maxRecDepth 100000 in
theorem gpL_law_L_isRounded_wsL_isRounded_r24 : GoodIn wsL_law wsL_isRounded_r24 := goodIn_r _ [596, 597, 598, 599, 600, 601, 602, 603, 604, 605, 606, 607, 608, 609, 610, 611, 612, 613, 614, 615, 616, 617, 618, 619] rfl (by decide +kernel)
set_option maxRecDepth 100000 in
theorem gpL_law_L_isRounded_wsL_isRounded_r25 : GoodIn wsL_law wsL_isRounded_r25 := goodIn_r _ [620, 621, 622, 623, 624, 625, 626, 627] rfl (by decide +kernel)
set_option maxRecDepth 100000 in
theorem gpL_law_L_isRounded_wsX90 : GoodIn wsL_law wsX90 := goodIn_r _ [810, 811, 812, 813, 814, 815, 816, 817] rfl (by decide +kernel)
set_option maxRecDepth 100000 in
theorem gpL_law_L_isRounded_wsX40 : GoodIn wsL_law wsX40 := goodIn_r _ [818] rfl (by decide +kernel)
set_option maxRecDepth 100000 in
theorem gpL_law_L_isRounded_wsX50 : GoodIn wsL_law wsX50 := goodIn_r _ [819, 820, 821] rfl (by decide +kernel)
set_option maxRecDepth 100000 in
theorem gpL_law_L_isRounded_wsX10 : GoodIn wsL_law wsX10 := goodIn_r _ [840, 841, 842, 843, 844, 845] rfl (by decide +kernel)
set_option maxRecDepth 100000 in
theorem gpL_law_L_isRounded_wsX80 : GoodIn wsL_law wsX80 := goodIn_r _ [846, 847, 848] rfl (by decide +kernel)
set_option maxRecDepth 100000 in
theorem gpL_law_L_isRounded_wsX30 : GoodIn wsL_law wsX30 := goodIn_r _ [832, 833, 834, 835, 836, 837, 838, 839] rfl (by decide +kernel)
set_option maxRecDepth 100000 in
theorem gpL_law_L_isRounded_wsX00 : GoodIn wsL_law wsX00 := goodIn_r _ [822] rfl (by decide +kernel)
set_option maxRecDepth 100000 in
theorem gpL_law_L_isRounded_wsX20 : GoodIn wsL_law wsX20 := goodIn_r _ [823, 824, 825, 826] rfl (by decide +kernel)
set_option maxRecDepth 100000 in
theorem gpL_law_L_isRounded_wsX60 : GoodIn wsL_law wsX60 := goodIn_r _ [827, 828] rfl (by decide +kernel)
set_option maxRecDepth 100000 in
theorem gpL_law_L_isRounded_wsX70 : GoodIn wsL_law wsX70 := goodIn_r _ [829, 830, 831] rfl (by decide +kernel)
set_option maxRecDepth 100000 in
theorem ggL_law_L_isRounded : GoodIn wsL_law wsL_isRounded := goodIn_ca (goodIn_ca (goodIn_ca (goodIn_cons (goodIn_r [_] [638] rfl (by decide +kernel)) (goodIn_app (goodIn_app (goodIn_app (goodIn_app (goodIn_app (goodIn_app (goodIn_app (goodIn_app (goodIn_app (goodIn_app (goodIn_app gpL_law_L_isRounded_wsL_isRounded_r1 (goodIn_app gpL_law_L_isRounded_wsL_isRounded_r2 (goodIn_app gpL_law_L_isRounded_wsL_isRounded_r3 (goodIn_app gpL_law_L_isRounded_wsL_isRounded_r4 (goodIn_app gpL_law_L_isRounded_wsL_isRounded_r5 (goodIn_app gpL_law_L_isRounded_wsL_isRounded_r6 (goodIn_app gpL_law_L_isRounded_wsL_isRounded_r7 (goodIn_app gpL_law_L_isRounded_wsL_isRounded_r8 (goodIn_app gpL_law_L_isRounded_wsL_isRounded_r9 (goodIn_app gpL_law_L_isRounded_wsL_isRounded_r10 (goodIn_app gpL_law_L_isRounded_wsL_isRounded_r11 (goodIn_app gpL_law_L_isRounded_wsL_isRounded_r12 (goodIn_app gpL_law_L_isRounded_wsL_isRounded_r13 (goodIn_app gpL_law_L_isRounded_wsL_isRounded_r14 (goodIn_app gpL_law_L_isRounded_wsL_isRounded_r15 (goodIn_app gpL_law_L_isRounded_wsL_isRounded_r16 (goodIn_app gpL_law_L_isRounded_wsL_isRounded_r17 (goodIn_app gpL_law_L_isRounded_wsL_isRounded_r18 (goodIn_app gpL_law_L_isRounded_wsL_isRounded_r19 (goodIn_app gpL_law_L_isRounded_wsL_isRounded_r20 (goodIn_app gpL_law_L_isRounded_wsL_isRounded_r21 (goodIn_app gpL_law_L_isRounded_wsL_isRounded_r22 (goodIn_app gpL_law_L_isRounded_wsL_isRounded_r23 (goodIn_app gpL_law_L_isRounded_wsL_isRounded_r24 (gpL_law_L_isRounded_wsL_isRounded_r25))))))))))))))))))))))))) gpL_law_L_isRounded_wsX90) gpL_law_L_isRounded_wsX40) gpL_law_L_isRounded_wsX50) gpL_law_L_isRounded_wsX10) gpL_law_L_isRounded_wsX80) gpL_law_L_isRounded_wsX30) gpL_law_L_isRounded_wsX00) gpL_law_L_isRounded_wsX20) gpL_law_L_isRounded_wsX60) gpL_law_L_isRounded_wsX70)) (goodIn_sub (fun _ h => List.mem_append_left _ (List.mem_append_left _ (List.mem_append_right _ h))) (by decide +kernel))) (goodIn_sub (fun _ h => List.mem_append_left _ (List.mem_append_right _ h)) (by decide +kernel))) (goodIn_sub (fun _ h => List.mem_append_right _ h) (by decide +kernel))
set_option maxRecDepth 20000 in
theorem gL_law_L_isRounded : GoodIn wsL_law (va_wsS RL 276 yL_isRounded wsL_isRounded) := goodIn_app (goodIn_of _ (by decide +kernel)) ggL_law_L_isRounded
set_option maxRecDepth 100000 in
theorem gpL_law_L_isTaxed_wsL_isTaxed_r1 : GoodIn wsL_law wsL_isTaxed_r1 := goodIn_r _ [55, 9, 727, 130, 3, 763, 764, 746, 728, 375, 153, 376, 4, 777, 778, 118, 119, 120, 2, 121, 22, 122, 779, 780] rfl (by decide +kernel)
set_option maxRecDepth 100000 in
theorem gpL_law_L_isTaxed_wsL_isTaxed_r2 : GoodIn wsL_law wsL_isTaxed_r2 := goodIn_r _ [781, 782, 42, 783, 784, 785, 41, 786, 103, 632, 633, 7, 634, 12, 635, 543, 544, 545, 546, 177, 547, 548, 549, 550] rfl (by decide +kernel)
set_option maxRecDepth 100000 in
theorem gpL_law_L_isTaxed_wsL_isTaxed_r3 : GoodIn wsL_law wsL_isTaxed_r3 := goodIn_r _ [551, 552, 101, 139, 140, 141, 142, 143, 144, 145, 146, 331, 162, 163, 164, 165, 553, 554, 555, 556, 102, 123, 124, 125] rfl (by decide +kernel)
set_option maxRecDepth 100000 in
theorem gpL_law_L_isTaxed_wsL_isTaxed_r4 : GoodIn wsL_law wsL_isTaxed_r4 := goodIn_r _ [126, 127, 128, 129, 131, 132, 133, 134, 135, 136, 137, 138, 147, 148, 149, 21, 150, 151, 152, 154, 155, 156, 157, 158] rfl (by decide +kernel)
set_option maxRecDepth 100000 in
theorem gpL_law_L_isTaxed_wsL_isTaxed_r5 : GoodIn wsL_law wsL_isTaxed_r5 := goodIn_r _ [159, 160, 161, 51, 166, 167, 168, 169, 170, 171, 172, 173, 174, 175, 176, 26, 178, 179, 180, 25, 181, 56, 182, 183] rfl (by decide +kernel)
set_option maxRecDepth 100000 in
theorem gpL_law_L_isTaxed_wsL_isTaxed_r6 : GoodIn wsL_law wsL_isTaxed_r6 := goodIn_r _ [184, 185, 186, 187, 188, 189, 190, 191, 192, 193, 194, 195, 196, 197, 198, 199, 200, 201, 202, 203, 204, 205, 206, 207] rfl (by decide +kernel)
set_option maxRecDepth 100000 in
theorem gpL_law_L_isTaxed_wsL_isTaxed_r7 : GoodIn wsL_law wsL_isTaxed_r7 := goodIn_r _ [208, 209, 210, 211, 212, 213, 60, 214, 215, 216, 217, 218, 219, 220, 221, 222, 223, 224, 225, 226, 59, 227, 228, 229] rfl (by decide +kernel)
set_option maxRecDepth 100000 in
theorem gpL_law_L_isTaxed_wsL_isTaxed_r8 : GoodIn wsL_law wsL_isTaxed_r8 := goodIn_r _ [230, 231, 232, 233, 234, 235, 236, 237, 238, 239, 71, 72, 73, 68, 69, 240, 241, 242, 67, 243, 244, 245, 246, 247] rfl (by decide +kernel)
set_option maxRecDepth 100000 in
theorem gpL_law_L_isTaxed_wsL_isTaxed_r9 : GoodIn wsL_law wsL_isTaxed_r9 := goodIn_r _ [78, 77, 248, 79, 249, 250, 251, 252, 253, 254, 255, 256, 257, 258, 259, 260, 261, 262, 263, 264, 265, 266, 267, 268] rfl (by decide +kernel)
set_option maxRecDepth 100000 in
theorem gpL_law_L_isTaxed_wsL_isTaxed_r10 : GoodIn wsL_law wsL_isTaxed_r10 := goodIn_r _ [269, 270, 271, 272, 273, 274, 275, 276, 277, 278, 279, 280, 281, 282, 283, 284, 285, 286, 70, 287, 288, 289, 290, 291] rfl (by decide +kernel)
set_option maxRecDepth 100000 in
theorem gpL_law_L_isTaxed_wsL_isTaxed_r11 : GoodIn wsL_law wsL_isTaxed_r11 := goodIn_r _ [292, 293, 294, 295, 296, 297, 298, 299, 300, 301, 302, 303, 304, 305, 306, 307, 308, 309, 310, 311, 312, 313, 314, 315] rfl (by decide +kernel)
set_option maxRecDepth 100000 in
theorem gpL_law_L_isTaxed_wsL_isTaxed_r12 : GoodIn wsL_law wsL_isTaxed_r12 := goodIn_r _ [316, 317, 318, 319, 320, 321, 322, 323, 324, 325, 326, 327, 328, 329, 330, 332, 333, 334, 335, 336, 337, 338, 339, 340] rfl (by decide +kernel)
set_option maxRecDepth 100000 in
theorem gpL_law_L_isTaxed_wsL_isTaxed_r13 : GoodIn wsL_law wsL_isTaxed_r13 := goodIn_r _ [341, 342, 343, 344, 345, 346, 347, 348, 349, 350, 47, 46, 351, 352, 353, 45, 354, 115, 116, 107, 108, 110, 355, 356] rfl (by decide +kernel)
set_option maxRecDepth 100000 in
theorem gpL_law_L_isTaxed_wsL_isTaxed_r14 : GoodIn wsL_law wsL_isTaxed_r14 := goodIn_r _ [357, 358, 117, 359, 112, 360, 361, 362, 363, 114, 364, 365, 366, 367, 368, 369, 370, 371, 372, 373, 374, 377, 378, 379] rfl (by decide +kernel)
set_option maxRecDepth 100000 in
theorem gpL_law_L_isTaxed_wsL_isTaxed_r15 : GoodIn wsL_law wsL_isTaxed_r15 := goodIn_r _ [380, 381, 382, 383, 384, 385, 386, 387, 388, 389, 390, 391, 392, 393, 394, 395, 396, 397, 398, 399, 400, 401, 402, 403] rfl (by decide +kernel)
set_option maxRecDepth 100000 in
theorem gpL_law_L_isTaxed_wsL_isTaxed_r16 : GoodIn wsL_law wsL_isTaxed_r16 := goodIn_r _ [404, 405, 406, 407, 408, 409, 410, 411, 412, 413, 414, 415, 416, 417, 418, 419, 420, 421, 422, 423, 424, 425, 426, 427] rfl (by decide +kernel)
set_option maxRecDepth 100000 in
theorem gpL_law_L_isTaxed_wsL_isTaxed_r17 : GoodIn wsL_law wsL_isTaxed_r17 := goodIn_r _ [428, 429, 430, 431, 432, 433, 434, 435, 436, 437, 438, 439, 440, 441, 30, 442, 443, 444, 445, 446, 447, 29, 448, 84] rfl (by decide +kernel)
set_option maxRecDepth 100000 in
theorem gpL_law_L_isTaxed_wsL_isTaxed_r18 : GoodIn wsL_law wsL_isTaxed_r18 := goodIn_r _ [449, 450, 451, 452, 453, 454, 455, 456, 457, 458, 459, 460, 461, 462, 463, 464, 465, 466, 34, 467, 468, 469, 470, 33] rfl (by decide +kernel)
set_option maxRecDepth 100000 in
theorem gpL_law_L_isTaxed_wsL_isTaxed_r19 : GoodIn wsL_law wsL_isTaxed_r19 := goodIn_r _ [471, 92, 472, 88, 473, 474, 475, 476, 477, 478, 479, 480, 481, 482, 483, 484, 485, 486, 487, 488, 90, 489, 490, 491] rfl (by decide +kernel)
set_option maxRecDepth 100000 in
theorem gpL_law_L_isTaxed_wsL_isTaxed_r20 : GoodIn wsL_law wsL_isTaxed_r20 := goodIn_r _ [492, 493, 494, 495, 496, 497, 498, 499, 500, 501, 502, 503, 504, 505, 506, 507, 508, 509, 510, 511, 512, 513, 514, 515] rfl (by decide +kernel)
set_option maxRecDepth 100000 in
theorem gpL_law_L_isTaxed_wsL_isTaxed_r21 : GoodIn wsL_law wsL_isTaxed_r21 := goodIn_r _ [516, 517, 518, 519, 91, 520, 521, 522, 523, 524, 38, 525, 526, 527, 528, 37, 529, 96, 97, 530, 531, 532, 533, 534] rfl (by decide +kernel)
set_option maxRecDepth 100000 in
theorem gpL_law_L_isTaxed_wsL_isTaxed_r22 : GoodIn wsL_law wsL_isTaxed_r22 := goodIn_r _ [535, 536, 537, 538, 539, 540, 541, 542, 557, 558, 559, 560, 561, 562, 563, 564, 565, 566, 567, 568, 569, 570, 571, 572] rfl (by decide +kernel)
set_option maxRecDepth 100000 in
theorem gpL_law_L_isTaxed_wsL_isTaxed_r23 : GoodIn wsL_law wsL_isTaxed_r23 := goodIn_r _ [573, 574, 575, 576, 577, 578, 579, 580, 581, 582, 583, 584, 585, 586, 587, 588, 589, 590, 591, 592, 593, 594, 595, 596] rfl (by decide +kernel)
set_option maxRecDepth 100000 in
theorem gpL_law_L_isTaxed_wsL_isTaxed_r24 : GoodIn wsL_law wsL_isTaxed_r24 := goodIn_r _ [597, 598, 599, 600, 601, 602, 603, 604, 605, 606, 607, 608, 609, 610, 611, 612, 613, 614, 615, 616, 617, 618, 619, 620] rfl (by decide +kernel)
set_option maxRecDepth 100000 in
theorem gpL_law_L_isTaxed_wsL_isTaxed_r25 : GoodIn wsL_law wsL_isTaxed_r25 := goodIn_r _ [621, 622, 623, 624, 625, 626, 627, 787, 788, 789, 765, 645, 646, 647, 648, 649, 650, 651, 652, 653, 654, 655, 656] rfl (by decide +kernel)
set_option maxRecDepth 100000 in
theorem gpL_law_L_isTaxed_wsX90 : GoodIn wsL_law wsX90 := goodIn_r _ [810, 811, 812, 813, 814, 815, 816, 817] rfl (by decide +kernel)
set_option maxRecDepth 100000 in
theorem gpL_law_L_isTaxed_wsX40 : GoodIn wsL_law wsX40 := goodIn_r _ [818] rfl (by decide +kernel)
set_option maxRecDepth 100000 in
theorem gpL_law_L_isTaxed_wsX70 : GoodIn wsL_law wsX70 := goodIn_r _ [829, 830, 831] rfl (by decide +kernel)
set_option maxRecDepth 100000 in
theorem gpL_law_L_isTaxed_wsX50 : GoodIn wsL_law wsX50 := goodIn_r _ [819, 820, 821] rfl (by decide +kernel)
set_option maxRecDepth 100000 in
theorem gpL_law_L_isTaxed_wsX10 : GoodIn wsL_law wsX10 := goodIn_r _ [840, 841, 842, 843, 844, 845] rfl (by decide +kernel)
set_option maxRecDepth 100000 in
theorem gpL_law_L_isTaxed_wsX80 : GoodIn wsL_law wsX80 := goodIn_r _ [846, 847, 848] rfl (by decide +kernel)
set_option maxRecDepth 100000 in
theorem gpL_law_L_isTaxed_wsX30 : GoodIn wsL_law wsX30 := goodIn_r _ [832, 833, 834, 835, 836, 837, 838, 839] rfl (by decide +kernel)
set_option maxRecDepth 100000 in
theorem gpL_law_L_isTaxed_wsX00 : GoodIn wsL_law wsX00 := goodIn_r _ [822] rfl (by decide +kernel)
set_option maxRecDepth 100000 in
theorem gpL_law_L_isTaxed_wsX20 : GoodIn wsL_law wsX20 := goodIn_r _ [823, 824, 825, 826] rfl (by decide +kernel)
set_option maxRecDepth 100000 in
theorem gpL_law_L_isTaxed_wsX60 : GoodIn wsL_law wsX60 := goodIn_r _ [827, 828] rfl (by decide +kernel)
set_option maxRecDepth 100000 in
theorem ggL_law_L_isTaxed : GoodIn wsL_law wsL_isTaxed := goodIn_ca (goodIn_ca (goodIn_ca (goodIn_cons (goodIn_r [_] [776] rfl (by decide +kernel)) (goodIn_app (goodIn_app (goodIn_app (goodIn_app (goodIn_app (goodIn_app (goodIn_app (goodIn_app (goodIn_app (goodIn_app (goodIn_app gpL_law_L_isTaxed_wsL_isTaxed_r1 (goodIn_app gpL_law_L_isTaxed_wsL_isTaxed_r2 (goodIn_app gpL_law_L_isTaxed_wsL_isTaxed_r3 (goodIn_app gpL_law_L_isTaxed_wsL_isTaxed_r4 (goodIn_app gpL_law_L_isTaxed_wsL_isTaxed_r5 (goodIn_app gpL_law_L_isTaxed_wsL_isTaxed_r6 (goodIn_app gpL_law_L_isTaxed_wsL_isTaxed_r7 (goodIn_app gpL_law_L_isTaxed_wsL_isTaxed_r8 (goodIn_app gpL_law_L_isTaxed_wsL_isTaxed_r9 (goodIn_app gpL_law_L_isTaxed_wsL_isTaxed_r10 (goodIn_app gpL_law_L_isTaxed_wsL_isTaxed_r11 (goodIn_app gpL_law_L_isTaxed_wsL_isTaxed_r12 (goodIn_app gpL_law_L_isTaxed_wsL_isTaxed_r13 (goodIn_app gpL_law_L_isTaxed_wsL_isTaxed_r14 (goodIn_app gpL_law_L_isTaxed_wsL_isTaxed_r15 (goodIn_app gpL_law_L_isTaxed_wsL_isTaxed_r16 (goodIn_app gpL_law_L_isTaxed_wsL_isTaxed_r17 (goodIn_app gpL_law_L_isTaxed_wsL_isTaxed_r18 (goodIn_app gpL_law_L_isTaxed_wsL_isTaxed_r19 (goodIn_app gpL_law_L_isTaxed_wsL_isTaxed_r20 (goodIn_app gpL_law_L_isTaxed_wsL_isTaxed_r21 (goodIn_app gpL_law_L_isTaxed_wsL_isTaxed_r22 (goodIn_app gpL_law_L_isTaxed_wsL_isTaxed_r23 (goodIn_app gpL_law_L_isTaxed_wsL_isTaxed_r24 (gpL_law_L_isTaxed_wsL_isTaxed_r25))))))))))))))))))))))))) gpL_law_L_isTaxed_wsX90) gpL_law_L_isTaxed_wsX40) gpL_law_L_isTaxed_wsX70) gpL_law_L_isTaxed_wsX50) gpL_law_L_isTaxed_wsX10) gpL_law_L_isTaxed_wsX80) gpL_law_L_isTaxed_wsX30) gpL_law_L_isTaxed_wsX00) gpL_law_L_isTaxed_wsX20) gpL_law_L_isTaxed_wsX60)) (goodIn_sub (fun _ h => List.mem_append_left _ (List.mem_append_left _ (List.mem_append_right _ h))) (by decide +kernel))) (goodIn_sub (fun _ h => List.mem_append_left _ (List.mem_append_right _ h)) (by decide +kernel))) (goodIn_sub (fun _ h => List.mem_append_right _ h) (by decide +kernel))
set_option maxRecDepth 20000 in
theorem gL_law_L_isTaxed : GoodIn wsL_law (va_wsS RL 298 yL_isTaxed wsL_isTaxed) := goodIn_app (goodIn_of _ (by decide +kernel)) ggL_law_L_isTaxed
set_option maxRecDepth 100000 in
theorem gpL_law_L_isWorth_wsL_isWorth_r1 : GoodIn wsL_law wsL_isWorth_r1 := goodIn_r _ [55, 660, 640, 661, 662, 644, 663, 664, 152, 153, 154, 665, 118, 119, 120, 2, 121, 22, 122, 632, 633, 7, 634, 12] rfl (by decide +kernel)
set_option maxRecDepth 100000 in
theorem gpL_law_L_isWorth_wsL_isWorth_r2 : GoodIn wsL_law wsL_isWorth_r2 := goodIn_r _ [635, 666, 667, 668, 669, 670, 671, 672, 26, 195, 196, 197, 25, 198, 56, 673, 674, 675, 676, 677, 678, 263, 679, 171] rfl (by decide +kernel)
set_option maxRecDepth 100000 in
theorem gpL_law_L_isWorth_wsL_isWorth_r3 : GoodIn wsL_law wsL_isWorth_r3 := goodIn_r _ [172, 173, 174, 175, 176, 177, 139, 140, 141, 142, 143, 144, 145, 146, 178, 179, 180, 181, 182, 183, 162, 163, 164, 165] rfl (by decide +kernel)
set_option maxRecDepth 100000 in
theorem gpL_law_L_isWorth_wsL_isWorth_r4 : GoodIn wsL_law wsL_isWorth_r4 := goodIn_r _ [184, 185, 186, 187, 680, 681, 682, 123, 124, 125, 126, 127, 128, 129, 130, 3, 131, 132, 133, 134, 135, 136, 137, 138] rfl (by decide +kernel)
set_option maxRecDepth 100000 in
theorem gpL_law_L_isWorth_wsL_isWorth_r5 : GoodIn wsL_law wsL_isWorth_r5 := goodIn_r _ [147, 148, 149, 21, 150, 151, 155, 156, 157, 158, 159, 160, 161, 51, 166, 167, 168, 169, 170, 188, 189, 190, 191, 192] rfl (by decide +kernel)
set_option maxRecDepth 100000 in
theorem gpL_law_L_isWorth_wsL_isWorth_r6 : GoodIn wsL_law wsL_isWorth_r6 := goodIn_r _ [193, 194, 199, 200, 201, 202, 203, 204, 205, 206, 207, 208, 209, 210, 211, 212, 213, 60, 214, 215, 216, 217, 218, 219] rfl (by decide +kernel)
set_option maxRecDepth 100000 in
theorem gpL_law_L_isWorth_wsL_isWorth_r7 : GoodIn wsL_law wsL_isWorth_r7 := goodIn_r _ [220, 221, 222, 223, 224, 225, 226, 59, 227, 228, 229, 230, 231, 232, 233, 234, 235, 236, 237, 238, 239, 71, 72, 73] rfl (by decide +kernel)
set_option maxRecDepth 100000 in
theorem gpL_law_L_isWorth_wsL_isWorth_r8 : GoodIn wsL_law wsL_isWorth_r8 := goodIn_r _ [68, 69, 240, 241, 242, 67, 243, 244, 245, 246, 247, 78, 77, 248, 79, 249, 250, 251, 252, 253, 254, 255, 256, 257] rfl (by decide +kernel)
set_option maxRecDepth 100000 in
theorem gpL_law_L_isWorth_wsL_isWorth_r9 : GoodIn wsL_law wsL_isWorth_r9 := goodIn_r _ [258, 259, 260, 261, 262, 264, 265, 266, 267, 268, 269, 270, 271, 272, 273, 274, 275, 276, 277, 278, 279, 280, 281, 282] rfl (by decide +kernel)
set_option maxRecDepth 100000 in
theorem gpL_law_L_isWorth_wsL_isWorth_r10 : GoodIn wsL_law wsL_isWorth_r10 := goodIn_r _ [283, 284, 285, 286, 70, 287, 288, 289, 290, 291, 292, 293, 294, 295, 296, 297, 298, 299, 300, 301, 302, 303, 304, 305] rfl (by decide +kernel)
set_option maxRecDepth 100000 in
theorem gpL_law_L_isWorth_wsL_isWorth_r11 : GoodIn wsL_law wsL_isWorth_r11 := goodIn_r _ [306, 307, 308, 309, 310, 311, 312, 313, 314, 315, 316, 317, 318, 319, 320, 321, 322, 323, 324, 325, 326, 327, 328, 329] rfl (by decide +kernel)
set_option maxRecDepth 100000 in
theorem gpL_law_L_isWorth_wsL_isWorth_r12 : GoodIn wsL_law wsL_isWorth_r12 := goodIn_r _ [330, 331, 332, 333, 334, 335, 336, 337, 338, 339, 340, 341, 342, 343, 344, 345, 346, 347, 348, 349, 350, 47, 46, 351] rfl (by decide +kernel)
set_option maxRecDepth 100000 in
theorem gpL_law_L_isWorth_wsL_isWorth_r13 : GoodIn wsL_law wsL_isWorth_r13 := goodIn_r _ [352, 353, 45, 354, 115, 116, 107, 108, 110, 355, 356, 357, 358, 117, 359, 112, 360, 361, 362, 363, 114, 364, 365, 366] rfl (by decide +kernel)
set_option maxRecDepth 100000 in
theorem gpL_law_L_isWorth_wsL_isWorth_r14 : GoodIn wsL_law wsL_isWorth_r14 := goodIn_r _ [367, 368, 369, 370, 371, 372, 373, 374, 375, 376, 377, 378, 379, 380, 381, 382, 383, 384, 385, 386, 387, 388, 389, 390] rfl (by decide +kernel)
set_option maxRecDepth 100000 in
theorem gpL_law_L_isWorth_wsL_isWorth_r15 : GoodIn wsL_law wsL_isWorth_r15 := goodIn_r _ [391, 392, 393, 394, 395, 396, 397, 398, 399, 400, 401, 402, 403, 404, 405, 406, 407, 408, 409, 410, 411, 412, 413, 414] rfl (by decide +kernel)
set_option maxRecDepth 100000 in
theorem gpL_law_L_isWorth_wsL_isWorth_r16 : GoodIn wsL_law wsL_isWorth_r16 := goodIn_r _ [415, 416, 417, 418, 419, 420, 421, 422, 423, 424, 425, 426, 427, 428, 429, 430, 431, 432, 433, 434, 435, 436, 437, 438] rfl (by decide +kernel)
set_option maxRecDepth 100000 in
theorem gpL_law_L_isWorth_wsL_isWorth_r17 : GoodIn wsL_law wsL_isWorth_r17 := goodIn_r _ [439, 440, 441, 30, 442, 443, 444, 445, 446, 447, 29, 448, 84, 449, 450, 451, 452, 453, 454, 455, 456, 457, 458, 459] rfl (by decide +kernel)
set_option maxRecDepth 100000 in
theorem gpL_law_L_isWorth_wsL_isWorth_r18 : GoodIn wsL_law wsL_isWorth_r18 := goodIn_r _ [460, 461, 462, 463, 464, 465, 466, 34, 467, 468, 469, 470, 33, 471, 92, 472, 88, 473, 474, 475, 476, 477, 478, 479] rfl (by decide +kernel)
set_option maxRecDepth 100000 in
theorem gpL_law_L_isWorth_wsL_isWorth_r19 : GoodIn wsL_law wsL_isWorth_r19 := goodIn_r _ [480, 481, 482, 483, 484, 485, 486, 487, 488, 90, 489, 490, 491, 492, 493, 494, 495, 496, 497, 498, 499, 500, 501, 502] rfl (by decide +kernel)
set_option maxRecDepth 100000 in
theorem gpL_law_L_isWorth_wsL_isWorth_r20 : GoodIn wsL_law wsL_isWorth_r20 := goodIn_r _ [503, 504, 505, 506, 507, 508, 509, 510, 511, 512, 513, 514, 515, 516, 517, 518, 519, 91, 520, 521, 522, 523, 524, 38] rfl (by decide +kernel)
set_option maxRecDepth 100000 in
theorem gpL_law_L_isWorth_wsL_isWorth_r21 : GoodIn wsL_law wsL_isWorth_r21 := goodIn_r _ [525, 526, 527, 528, 37, 529, 96, 97, 530, 531, 532, 533, 534, 535, 536, 537, 538, 539, 540, 541, 542, 543, 544, 545] rfl (by decide +kernel)
set_option maxRecDepth 100000 in
theorem gpL_law_L_isWorth_wsL_isWorth_r22 : GoodIn wsL_law wsL_isWorth_r22 := goodIn_r _ [546, 42, 547, 548, 549, 550, 551, 41, 552, 103, 101, 553, 554, 555, 556, 102, 557, 558, 559, 560, 561, 562, 563, 564] rfl (by decide +kernel)
set_option maxRecDepth 100000 in
theorem gpL_law_L_isWorth_wsL_isWorth_r23 : GoodIn wsL_law wsL_isWorth_r23 := goodIn_r _ [565, 566, 567, 568, 569, 570, 571, 572, 573, 574, 575, 576, 577, 578, 579, 580, 581, 582, 583, 584, 585, 586, 587, 588] rfl (by decide +kernel)
set_option maxRecDepth 100000 in
theorem gpL_law_L_isWorth_wsL_isWorth_r24 : GoodIn wsL_law wsL_isWorth_r24 := goodIn_r _ [589, 590, 591, 592, 593, 594, 595, 596, 597, 598, 599, 600, 601, 602, 603, 604, 605, 606, 607, 608, 609, 610, 611, 612] rfl (by decide +kernel)
set_option maxRecDepth 100000 in
theorem gpL_law_L_isWorth_wsL_isWorth_r25 : GoodIn wsL_law wsL_isWorth_r25 := goodIn_r _ [613, 614, 615, 616, 617, 618, 619, 620, 621, 622, 623, 624, 625, 626, 627, 645, 646, 647, 648, 649, 650, 651, 652, 653] rfl (by decide +kernel)
set_option maxRecDepth 100000 in
theorem gpL_law_L_isWorth_wsL_isWorth_r26 : GoodIn wsL_law wsL_isWorth_r26 := goodIn_r _ [654, 655, 656, 683, 684, 685] rfl (by decide +kernel)
set_option maxRecDepth 100000 in
theorem gpL_law_L_isWorth_wsX90 : GoodIn wsL_law wsX90 := goodIn_r _ [810, 811, 812, 813, 814, 815, 816, 817] rfl (by decide +kernel)
set_option maxRecDepth 100000 in
theorem gpL_law_L_isWorth_wsX40 : GoodIn wsL_law wsX40 := goodIn_r _ [818] rfl (by decide +kernel)
set_option maxRecDepth 100000 in
theorem gpL_law_L_isWorth_wsX50 : GoodIn wsL_law wsX50 := goodIn_r _ [819, 820, 821] rfl (by decide +kernel)
set_option maxRecDepth 100000 in
theorem gpL_law_L_isWorth_wsX10 : GoodIn wsL_law wsX10 := goodIn_r _ [840, 841, 842, 843, 844, 845] rfl (by decide +kernel)
set_option maxRecDepth 100000 in
theorem gpL_law_L_isWorth_wsX80 : GoodIn wsL_law wsX80 := goodIn_r _ [846, 847, 848] rfl (by decide +kernel)
set_option maxRecDepth 100000 in
theorem gpL_law_L_isWorth_wsX30 : GoodIn wsL_law wsX30 := goodIn_r _ [832, 833, 834, 835, 836, 837, 838, 839] rfl (by decide +kernel)
set_option maxRecDepth 100000 in
theorem gpL_law_L_isWorth_wsX00 : GoodIn wsL_law wsX00 := goodIn_r _ [822] rfl (by decide +kernel)
set_option maxRecDepth 100000 in
theorem gpL_law_L_isWorth_wsX20 : GoodIn wsL_law wsX20 := goodIn_r _ [823, 824, 825, 826] rfl (by decide +kernel)
set_option maxRecDepth 100000 in
theorem gpL_law_L_isWorth_wsX60 : GoodIn wsL_law wsX60 := goodIn_r _ [827, 828] rfl (by decide +kernel)
set_option maxRecDepth 100000 in
theorem gpL_law_L_isWorth_wsX70 : GoodIn wsL_law wsX70 := goodIn_r _ [829, 830, 831] rfl (by decide +kernel)
set_option maxRecDepth 100000 in
theorem ggL_law_L_isWorth : GoodIn wsL_law wsL_isWorth := goodIn_ca (goodIn_ca (goodIn_ca (goodIn_cons (goodIn_r [_] [659] rfl (by decide +kernel)) (goodIn_app (goodIn_app (goodIn_app (goodIn_app (goodIn_app (goodIn_app (goodIn_app (goodIn_app (goodIn_app (goodIn_app (goodIn_app gpL_law_L_isWorth_wsL_isWorth_r1 (goodIn_app gpL_law_L_isWorth_wsL_isWorth_r2 (goodIn_app gpL_law_L_isWorth_wsL_isWorth_r3 (goodIn_app gpL_law_L_isWorth_wsL_isWorth_r4 (goodIn_app gpL_law_L_isWorth_wsL_isWorth_r5 (goodIn_app gpL_law_L_isWorth_wsL_isWorth_r6 (goodIn_app gpL_law_L_isWorth_wsL_isWorth_r7 (goodIn_app gpL_law_L_isWorth_wsL_isWorth_r8 (goodIn_app gpL_law_L_isWorth_wsL_isWorth_r9 (goodIn_app gpL_law_L_isWorth_wsL_isWorth_r10 (goodIn_app gpL_law_L_isWorth_wsL_isWorth_r11 (goodIn_app gpL_law_L_isWorth_wsL_isWorth_r12 (goodIn_app gpL_law_L_isWorth_wsL_isWorth_r13 (goodIn_app gpL_law_L_isWorth_wsL_isWorth_r14 (goodIn_app gpL_law_L_isWorth_wsL_isWorth_r15 (goodIn_app gpL_law_L_isWorth_wsL_isWorth_r16 (goodIn_app gpL_law_L_isWorth_wsL_isWorth_r17 (goodIn_app gpL_law_L_isWorth_wsL_isWorth_r18 (goodIn_app gpL_law_L_isWorth_wsL_isWorth_r19 (goodIn_app gpL_law_L_isWorth_wsL_isWorth_r20 (goodIn_app gpL_law_L_isWorth_wsL_isWorth_r21 (goodIn_app gpL_law_L_isWorth_wsL_isWorth_r22 (goodIn_app gpL_law_L_isWorth_wsL_isWorth_r23 (goodIn_app gpL_law_L_isWorth_wsL_isWorth_r24 (goodIn_app gpL_law_L_isWorth_wsL_isWorth_r25 (gpL_law_L_isWorth_wsL_isWorth_r26)))))))))))))))))))))))))) gpL_law_L_isWorth_wsX90) gpL_law_L_isWorth_wsX40) gpL_law_L_isWorth_wsX50) gpL_law_L_isWorth_wsX10) gpL_law_L_isWorth_wsX80) gpL_law_L_isWorth_wsX30) gpL_law_L_isWorth_wsX00) gpL_law_L_isWorth_wsX20) gpL_law_L_isWorth_wsX60) gpL_law_L_isWorth_wsX70)) (goodIn_sub (fun _ h => List.mem_append_left _ (List.mem_append_left _ (List.mem_append_right _ h))) (by decide +kernel))) (goodIn_sub (fun _ h => List.mem_append_left _ (List.mem_append_right _ h)) (by decide +kernel))) (goodIn_sub (fun _ h => List.mem_append_right _ h) (by decide +kernel))
set_option maxRecDepth 20000 in
theorem gL_law_L_isWorth : GoodIn wsL_law (va_wsS RL 280 yL_isWorth wsL_isWorth) := goodIn_app (goodIn_of _ (by decide +kernel)) ggL_law_L_isWorth
set_option maxRecDepth 100000 in
theorem gpL_law_L_isYield_wsL_isYield_r1 : GoodIn wsL_law wsL_isYield_r1 := goodIn_r _ [55, 4, 3, 632, 633, 7, 634, 12, 635, 683, 684, 655, 685, 666, 667, 668, 669, 670, 671, 2, 672, 26, 195, 196] rfl (by decide +kernel)
set_option maxRecDepth 100000 in
theorem gpL_law_L_isYield_wsL_isYield_r2 : GoodIn wsL_law wsL_isYield_r2 := goodIn_r _ [197, 25, 198, 56, 673, 674, 675, 676, 677, 678, 263, 679, 171, 172, 173, 174, 175, 176, 177, 139, 140, 141, 142, 143] rfl (by decide +kernel)
set_option maxRecDepth 100000 in
theorem gpL_law_L_isYield_wsL_isYield_r3 : GoodIn wsL_law wsL_isYield_r3 := goodIn_r _ [144, 145, 146, 178, 179, 180, 181, 182, 183, 162, 163, 164, 165, 184, 185, 186, 187, 689, 690, 691, 692, 327, 328, 329] rfl (by decide +kernel)
set_option maxRecDepth 100000 in
theorem gpL_law_L_isYield_wsL_isYield_r4 : GoodIn wsL_law wsL_isYield_r4 := goodIn_r _ [330, 123, 124, 125, 126, 127, 128, 129, 130, 131, 132, 133, 134, 135, 136, 137, 138, 22, 147, 148, 149, 21, 150, 151] rfl (by decide +kernel)
set_option maxRecDepth 100000 in
theorem gpL_law_L_isYield_wsL_isYield_r5 : GoodIn wsL_law wsL_isYield_r5 := goodIn_r _ [152, 153, 154, 155, 156, 157, 158, 159, 160, 161, 51, 166, 167, 168, 169, 170, 188, 189, 190, 191, 192, 193, 194, 199] rfl (by decide +kernel)
set_option maxRecDepth 100000 in
theorem gpL_law_L_isYield_wsL_isYield_r6 : GoodIn wsL_law wsL_isYield_r6 := goodIn_r _ [200, 201, 202, 203, 204, 205, 206, 207, 208, 209, 210, 211, 212, 213, 60, 214, 215, 216, 217, 218, 219, 220, 221, 222] rfl (by decide +kernel)
set_option maxRecDepth 100000 in
theorem gpL_law_L_isYield_wsL_isYield_r7 : GoodIn wsL_law wsL_isYield_r7 := goodIn_r _ [223, 224, 225, 226, 59, 227, 228, 229, 230, 231, 232, 233, 234, 235, 236, 237, 238, 239, 71, 72, 73, 68, 69, 240] rfl (by decide +kernel)
set_option maxRecDepth 100000 in
theorem gpL_law_L_isYield_wsL_isYield_r8 : GoodIn wsL_law wsL_isYield_r8 := goodIn_r _ [241, 242, 67, 243, 244, 245, 246, 247, 78, 77, 248, 79, 249, 250, 251, 252, 253, 254, 255, 256, 257, 258, 259, 260] rfl (by decide +kernel)
set_option maxRecDepth 100000 in
theorem gpL_law_L_isYield_wsL_isYield_r9 : GoodIn wsL_law wsL_isYield_r9 := goodIn_r _ [261, 262, 264, 265, 266, 267, 268, 269, 270, 271, 272, 273, 274, 275, 276, 277, 278, 279, 280, 281, 282, 283, 284, 285] rfl (by decide +kernel)
set_option maxRecDepth 100000 in
theorem gpL_law_L_isYield_wsL_isYield_r10 : GoodIn wsL_law wsL_isYield_r10 := goodIn_r _ [286, 70, 287, 288, 289, 290, 291, 292, 293, 294, 295, 296, 297, 298, 299, 300, 301, 302, 303, 304, 305, 306, 307, 308] rfl (by decide +kernel)
set_option maxRecDepth 100000 in
theorem gpL_law_L_isYield_wsL_isYield_r11 : GoodIn wsL_law wsL_isYield_r11 := goodIn_r _ [309, 310, 311, 312, 313, 314, 315, 316, 317, 318, 319, 320, 321, 322, 323, 324, 325, 326, 331, 332, 333, 334, 335, 336] rfl (by decide +kernel)
set_option maxRecDepth 100000 in
theorem gpL_law_L_isYield_wsL_isYield_r12 : GoodIn wsL_law wsL_isYield_r12 := goodIn_r _ [337, 338, 339, 340, 341, 342, 343, 344, 345, 346, 347, 348, 349, 350, 47, 46, 351, 352, 353, 45, 354, 115, 116, 107] rfl (by decide +kernel)
set_option maxRecDepth 100000 in
theorem gpL_law_L_isYield_wsL_isYield_r13 : GoodIn wsL_law wsL_isYield_r13 := goodIn_r _ [108, 110, 355, 356, 357, 358, 117, 359, 112, 360, 361, 362, 363, 114, 364, 365, 366, 367, 368, 369, 370, 371, 372, 373] rfl (by decide +kernel)
set_option maxRecDepth 100000 in
theorem gpL_law_L_isYield_wsL_isYield_r14 : GoodIn wsL_law wsL_isYield_r14 := goodIn_r _ [374, 375, 376, 377, 378, 379, 380, 381, 382, 383, 384, 385, 386, 387, 388, 389, 390, 391, 392, 393, 394, 395, 396, 397] rfl (by decide +kernel)
set_option maxRecDepth 100000 in
theorem gpL_law_L_isYield_wsL_isYield_r15 : GoodIn wsL_law wsL_isYield_r15 := goodIn_r _ [398, 399, 400, 401, 402, 403, 404, 405, 406, 407, 408, 409, 410, 411, 412, 413, 414, 415, 416, 417, 418, 419, 420, 421] rfl (by decide +kernel)
set_option maxRecDepth 100000 in
theorem gpL_law_L_isYield_wsL_isYield_r16 : GoodIn wsL_law wsL_isYield_r16 := goodIn_r _ [422, 423, 424, 425, 426, 427, 428, 429, 430, 431, 432, 433, 434, 435, 436, 437, 438, 439, 440, 441, 30, 442, 443, 444] rfl (by decide +kernel)
set_option maxRecDepth 100000 in
theorem gpL_law_L_isYield_wsL_isYield_r17 : GoodIn wsL_law wsL_isYield_r17 := goodIn_r _ [445, 446, 447, 29, 448, 84, 449, 450, 451, 452, 453, 454, 455, 456, 457, 458, 459, 460, 461, 462, 463, 464, 465, 466] rfl (by decide +kernel)
set_option maxRecDepth 100000 in
theorem gpL_law_L_isYield_wsL_isYield_r18 : GoodIn wsL_law wsL_isYield_r18 := goodIn_r _ [34, 467, 468, 469, 470, 33, 471, 92, 472, 88, 473, 474, 475, 476, 477, 478, 479, 480, 481, 482, 483, 484, 485, 486] rfl (by decide +kernel)
set_option maxRecDepth 100000 in
theorem gpL_law_L_isYield_wsL_isYield_r19 : GoodIn wsL_law wsL_isYield_r19 := goodIn_r _ [487, 488, 90, 489, 490, 491, 492, 493, 494, 495, 496, 497, 498, 499, 500, 501, 502, 503, 504, 505, 506, 507, 508, 509] rfl (by decide +kernel)
set_option maxRecDepth 100000 in
theorem gpL_law_L_isYield_wsL_isYield_r20 : GoodIn wsL_law wsL_isYield_r20 := goodIn_r _ [510, 511, 512, 513, 514, 515, 516, 517, 518, 519, 91, 520, 521, 522, 523, 524, 38, 525, 526, 527, 528, 37, 529, 96] rfl (by decide +kernel)
set_option maxRecDepth 100000 in
theorem gpL_law_L_isYield_wsL_isYield_r21 : GoodIn wsL_law wsL_isYield_r21 := goodIn_r _ [97, 530, 531, 532, 533, 534, 535, 536, 537, 538, 539, 540, 541, 542, 543, 544, 545, 546, 42, 547, 548, 549, 550, 551] rfl (by decide +kernel)
set_option maxRecDepth 100000 in
theorem gpL_law_L_isYield_wsL_isYield_r22 : GoodIn wsL_law wsL_isYield_r22 := goodIn_r _ [41, 552, 103, 101, 553, 554, 555, 556, 102, 557, 558, 559, 560, 561, 562, 563, 564, 565, 566, 567, 568, 569, 570, 571] rfl (by decide +kernel)
set_option maxRecDepth 100000 in
theorem gpL_law_L_isYield_wsL_isYield_r23 : GoodIn wsL_law wsL_isYield_r23 := goodIn_r _ [572, 573, 574, 575, 576, 577, 578, 579, 580, 581, 582, 583, 584, 585, 586, 587, 588, 589, 590, 591, 592, 593, 594, 595] rfl (by decide +kernel)
set_option maxRecDepth 100000 in
theorem gpL_law_L_isYield_wsL_isYield_r24 : GoodIn wsL_law wsL_isYield_r24 := goodIn_r _ [596, 597, 598, 599, 600, 601, 602, 603, 122, 604, 605, 606, 607, 608, 609, 610, 611, 612, 613, 614, 615, 616, 617, 618] rfl (by decide +kernel)
set_option maxRecDepth 100000 in
theorem gpL_law_L_isYield_wsL_isYield_r25 : GoodIn wsL_law wsL_isYield_r25 := goodIn_r _ [619, 620, 621, 622, 623, 624, 625, 626, 627, 693, 694, 695, 696, 697, 698, 699, 700, 701, 61, 702, 703, 704, 705, 706] rfl (by decide +kernel)
set_option maxRecDepth 100000 in
theorem gpL_law_L_isYield_wsL_isYield_r26 : GoodIn wsL_law wsL_isYield_r26 := goodIn_r _ [707, 708, 709, 710, 711, 712, 713, 714, 715, 716, 717, 718, 719, 720, 721, 722, 723] rfl (by decide +kernel)
set_option maxRecDepth 100000 in
theorem gpL_law_L_isYield_wsX90 : GoodIn wsL_law wsX90 := goodIn_r _ [810, 811, 812, 813, 814, 815, 816, 817] rfl (by decide +kernel)
set_option maxRecDepth 100000 in
theorem gpL_law_L_isYield_wsX50 : GoodIn wsL_law wsX50 := goodIn_r _ [819, 820, 821] rfl (by decide +kernel)
set_option maxRecDepth 100000 in
theorem gpL_law_L_isYield_wsX40 : GoodIn wsL_law wsX40 := goodIn_r _ [818] rfl (by decide +kernel)
set_option maxRecDepth 100000 in
theorem gpL_law_L_isYield_wsX10 : GoodIn wsL_law wsX10 := goodIn_r _ [840, 841, 842, 843, 844, 845] rfl (by decide +kernel)
set_option maxRecDepth 100000 in
theorem gpL_law_L_isYield_wsX80 : GoodIn wsL_law wsX80 := goodIn_r _ [846, 847, 848] rfl (by decide +kernel)
set_option maxRecDepth 100000 in
theorem gpL_law_L_isYield_wsX30 : GoodIn wsL_law wsX30 := goodIn_r _ [832, 833, 834, 835, 836, 837, 838, 839] rfl (by decide +kernel)
set_option maxRecDepth 100000 in
theorem gpL_law_L_isYield_wsX00 : GoodIn wsL_law wsX00 := goodIn_r _ [822] rfl (by decide +kernel)
set_option maxRecDepth 100000 in
theorem gpL_law_L_isYield_wsX20 : GoodIn wsL_law wsX20 := goodIn_r _ [823, 824, 825, 826] rfl (by decide +kernel)
set_option maxRecDepth 100000 in
theorem gpL_law_L_isYield_wsX60 : GoodIn wsL_law wsX60 := goodIn_r _ [827, 828] rfl (by decide +kernel)
set_option maxRecDepth 100000 in
theorem gpL_law_L_isYield_wsX70 : GoodIn wsL_law wsX70 := goodIn_r _ [829, 830, 831] rfl (by decide +kernel)
set_option maxRecDepth 100000 in
theorem ggL_law_L_isYield : GoodIn wsL_law wsL_isYield := goodIn_ca (goodIn_ca (goodIn_ca (goodIn_cons (goodIn_r [_] [688] rfl (by decide +kernel)) (goodIn_app (goodIn_app (goodIn_app (goodIn_app (goodIn_app (goodIn_app (goodIn_app (goodIn_app (goodIn_app (goodIn_app (goodIn_app gpL_law_L_isYield_wsL_isYield_r1 (goodIn_app gpL_law_L_isYield_wsL_isYield_r2 (goodIn_app gpL_law_L_isYield_wsL_isYield_r3 (goodIn_app gpL_law_L_isYield_wsL_isYield_r4 (goodIn_app gpL_law_L_isYield_wsL_isYield_r5 (goodIn_app gpL_law_L_isYield_wsL_isYield_r6 (goodIn_app gpL_law_L_isYield_wsL_isYield_r7 (goodIn_app gpL_law_L_isYield_wsL_isYield_r8 (goodIn_app gpL_law_L_isYield_wsL_isYield_r9 (goodIn_app gpL_law_L_isYield_wsL_isYield_r10 (goodIn_app gpL_law_L_isYield_wsL_isYield_r11 (goodIn_app gpL_law_L_isYield_wsL_isYield_r12 (goodIn_app gpL_law_L_isYield_wsL_isYield_r13 (goodIn_app gpL_law_L_isYield_wsL_isYield_r14 (goodIn_app gpL_law_L_isYield_wsL_isYield_r15 (goodIn_app gpL_law_L_isYield_wsL_isYield_r16 (goodIn_app gpL_law_L_isYield_wsL_isYield_r17 (goodIn_app gpL_law_L_isYield_wsL_isYield_r18 (goodIn_app gpL_law_L_isYield_wsL_isYield_r19 (goodIn_app gpL_law_L_isYield_wsL_isYield_r20 (goodIn_app gpL_law_L_isYield_wsL_isYield_r21 (goodIn_app gpL_law_L_isYield_wsL_isYield_r22 (goodIn_app gpL_law_L_isYield_wsL_isYield_r23 (goodIn_app gpL_law_L_isYield_wsL_isYield_r24 (goodIn_app gpL_law_L_isYield_wsL_isYield_r25 (gpL_law_L_isYield_wsL_isYield_r26)))))))))))))))))))))))))) gpL_law_L_isYield_wsX90) gpL_law_L_isYield_wsX50) gpL_law_L_isYield_wsX40) gpL_law_L_isYield_wsX10) gpL_law_L_isYield_wsX80) gpL_law_L_isYield_wsX30) gpL_law_L_isYield_wsX00) gpL_law_L_isYield_wsX20) gpL_law_L_isYield_wsX60) gpL_law_L_isYield_wsX70)) (goodIn_sub (fun _ h => List.mem_append_left _ (List.mem_append_left _ (List.mem_append_right _ h))) (by decide +kernel))) (goodIn_sub (fun _ h => List.mem_append_left _ (List.mem_append_right _ h)) (by decide +kernel))) (goodIn_sub (fun _ h => List.mem_append_right _ h) (by decide +kernel))
set_option maxRecDepth 20000 in
theorem gL_law_L_isYield : GoodIn wsL_law (va_wsS RL 283 yL_isYield wsL_isYield) := goodIn_app (goodIn_of _ (by decide +kernel)) ggL_law_L_isYield
set_option maxRecDepth 100000 in
theorem ggL_law_L_seed : GoodIn wsL_law wsL_seed := goodIn_r _ [8, 9, 10, 11, 12] rfl (by decide +kernel)
set_option maxRecDepth 20000 in
theorem gL_law_L_seed : GoodIn wsL_law (va_wsS RL 271 yL_seed wsL_seed) := goodIn_app (goodIn_of _ (by decide +kernel)) ggL_law_L_seed
set_option maxRecDepth 100000 in
theorem ggL_law_X9_init : GoodIn wsL_law wsX9_init := goodIn_r _ [15, 16, 17, 18, 19, 20, 21, 22, 23, 24, 25, 26, 27, 28, 29, 30, 31, 32, 33, 34, 35, 36, 37, 38, 39, 40, 41, 42, 43, 44, 45, 46, 47, 48, 49, 50, 51, 52, 53, 54, 55, 56, 57, 58, 59, 60, 61, 62, 63, 64, 65, 66, 67, 68, 69, 70, 71, 72, 73, 74, 75, 76, 77, 78, 79, 80, 81, 82, 83, 84, 85, 86, 87, 9, 88, 89, 90, 91, 92, 93, 94, 95, 96, 97, 98, 99, 100, 101, 102, 103, 104, 105, 106, 107, 108, 109, 110, 111, 112, 113, 114, 115, 116, 117, 818, 810, 811, 812, 813, 814, 815, 816, 817, 819, 820, 821, 822, 823, 824, 825, 826, 827, 828, 829, 830, 831, 832, 833, 834, 835, 836, 837, 838, 839, 840, 841, 842, 843, 844, 845, 846, 847, 848] rfl (by decide +kernel)
set_option maxRecDepth 20000 in
theorem gL_law_X9_init : GoodIn wsL_law (wsX9_init) := ggL_law_X9_init
set_option maxRecDepth 100000 in
theorem ggL_law_X9_interestShare : GoodIn wsL_law wsX9_interestShare := goodIn_r _ [631, 46, 434, 435, 436, 45, 437, 117, 112, 810, 811, 812, 813, 814, 815, 816, 817, 832, 833, 834, 835, 836, 837, 838, 839] rfl (by decide +kernel)
set_option maxRecDepth 20000 in
theorem gL_law_X9_interestShare : GoodIn wsL_law (wsV RL 219 RX9 yX9_interestShare wsX9_interestShare) := goodIn_app (goodIn_of _ (by decide +kernel)) ggL_law_X9_interestShare
set_option maxRecDepth 100000 in
theorem ggL_law_X9_mode : GoodIn wsL_law wsX9_mode := goodIn_r _ [121, 22, 122, 810, 811, 812, 813, 814, 815, 816, 817, 818] rfl (by decide +kernel)
set_option maxRecDepth 20000 in
theorem gL_law_X9_mode : GoodIn wsL_law (wsV RL 147 RX9 yX9_mode wsX9_mode) := goodIn_app (goodIn_of _ (by decide +kernel)) ggL_law_X9_mode
set_option maxRecDepth 100000 in
theorem ggL_law_X9_setMode : GoodIn wsL_law wsX9_setMode := goodIn_ca (goodIn_r _ [602, 603, 22, 122, 139, 140, 2, 141, 142, 143, 144, 145, 146, 810, 811, 812, 813, 814, 815, 816, 817, 818] rfl (by decide +kernel)) (goodIn_sub (fun _ h => List.mem_append_left _ (List.mem_append_left _ (List.mem_append_right _ h))) (by decide +kernel))
set_option maxRecDepth 20000 in
theorem gL_law_X9_setMode : GoodIn wsL_law (wsV RL 105 RX9 yX9_setMode wsX9_setMode) := goodIn_app (goodIn_of _ (by decide +kernel)) ggL_law_X9_setMode
