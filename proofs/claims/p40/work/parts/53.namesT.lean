-- printed rows that the walks use
theorem dL_isInstalment_0 : decode cL_isInstalment 0 = .ok (.iload_n 3, 1) := by decide +kernel
theorem dL_isInstalment_1 : decode cL_isInstalment 1 = .ok (.ifCond .ne 24, 3) := by decide +kernel
theorem dL_isInstalment_10 : decode cL_isInstalment 10 = .ok (.iload 7, 2) := by decide +kernel
theorem dL_isInstalment_101 : decode cL_isInstalment 101 = .ok (.istore 10, 2) := by decide +kernel
theorem dL_isInstalment_103 : decode cL_isInstalment 103 = .ok (.aload_n 0, 1) := by decide +kernel
theorem dL_isInstalment_104 : decode cL_isInstalment 104 = .ok (.lload_n 1, 1) := by decide +kernel
theorem dL_isInstalment_105 : decode cL_isInstalment 105 = .ok (.iload_n 3, 1) := by decide +kernel
theorem dL_isInstalment_106 : decode cL_isInstalment 106 = .ok (.iload 4, 2) := by decide +kernel
theorem dL_isInstalment_108 : decode cL_isInstalment 108 = .ok (.ldc2_w 145, 3) := by decide +kernel
theorem dL_isInstalment_111 : decode cL_isInstalment 111 = .ok (.lload 5, 2) := by decide +kernel
theorem dL_isInstalment_113 : decode cL_isInstalment 113 = .ok (.lmul, 1) := by decide +kernel
theorem dL_isInstalment_114 : decode cL_isInstalment 114 = .ok (.ldc2_w 145, 3) := by decide +kernel
theorem dL_isInstalment_117 : decode cL_isInstalment 117 = .ok (.ladd, 1) := by decide +kernel
theorem dL_isInstalment_118 : decode cL_isInstalment 118 = .ok (.invokestatic 201, 3) := by decide +kernel
theorem dL_isInstalment_12 : decode cL_isInstalment 12 = .ok (.invokestatic 158, 3) := by decide +kernel
theorem dL_isInstalment_121 : decode cL_isInstalment 121 = .ok (.istore 11, 2) := by decide +kernel
theorem dL_isInstalment_123 : decode cL_isInstalment 123 = .ok (.aload_n 0, 1) := by decide +kernel
theorem dL_isInstalment_124 : decode cL_isInstalment 124 = .ok (.lload_n 1, 1) := by decide +kernel
theorem dL_isInstalment_125 : decode cL_isInstalment 125 = .ok (.iload_n 3, 1) := by decide +kernel
theorem dL_isInstalment_126 : decode cL_isInstalment 126 = .ok (.iload 4, 2) := by decide +kernel
theorem dL_isInstalment_128 : decode cL_isInstalment 128 = .ok (.ldc2_w 145, 3) := by decide +kernel
theorem dL_isInstalment_131 : decode cL_isInstalment 131 = .ok (.lload 5, 2) := by decide +kernel
theorem dL_isInstalment_133 : decode cL_isInstalment 133 = .ok (.lmul, 1) := by decide +kernel
theorem dL_isInstalment_134 : decode cL_isInstalment 134 = .ok (.ldc2_w 145, 3) := by decide +kernel
theorem dL_isInstalment_137 : decode cL_isInstalment 137 = .ok (.lsub, 1) := by decide +kernel
theorem dL_isInstalment_138 : decode cL_isInstalment 138 = .ok (.invokestatic 201, 3) := by decide +kernel
theorem dL_isInstalment_141 : decode cL_isInstalment 141 = .ok (.istore 12, 2) := by decide +kernel
theorem dL_isInstalment_143 : decode cL_isInstalment 143 = .ok (.iload 7, 2) := by decide +kernel
theorem dL_isInstalment_145 : decode cL_isInstalment 145 = .ok (.tableswitch 184 0 6 #[43, 75, 59, 91, 107, 123, 139], 43) := by decide +kernel
theorem dL_isInstalment_15 : decode cL_isInstalment 15 = .ok (.lcmp, 1) := by decide +kernel
theorem dL_isInstalment_16 : decode cL_isInstalment 16 = .ok (.ifCond .ne 7, 3) := by decide +kernel
theorem dL_isInstalment_188 : decode cL_isInstalment 188 = .ok (.iload 8, 2) := by decide +kernel
theorem dL_isInstalment_19 : decode cL_isInstalment 19 = .ok (.iconst 1, 1) := by decide +kernel
theorem dL_isInstalment_190 : decode cL_isInstalment 190 = .ok (.ifCond .lt 12, 3) := by decide +kernel
theorem dL_isInstalment_193 : decode cL_isInstalment 193 = .ok (.iload 12, 2) := by decide +kernel
theorem dL_isInstalment_195 : decode cL_isInstalment 195 = .ok (.ifCond .ge 7, 3) := by decide +kernel
theorem dL_isInstalment_198 : decode cL_isInstalment 198 = .ok (.iconst 1, 1) := by decide +kernel
theorem dL_isInstalment_199 : decode cL_isInstalment 199 = .ok (.goto 4, 3) := by decide +kernel
theorem dL_isInstalment_20 : decode cL_isInstalment 20 = .ok (.goto 4, 3) := by decide +kernel
theorem dL_isInstalment_203 : decode cL_isInstalment 203 = .ok (.ireturn, 1) := by decide +kernel
theorem dL_isInstalment_204 : decode cL_isInstalment 204 = .ok (.iload 8, 2) := by decide +kernel
theorem dL_isInstalment_206 : decode cL_isInstalment 206 = .ok (.ifCond .lt 12, 3) := by decide +kernel
theorem dL_isInstalment_209 : decode cL_isInstalment 209 = .ok (.iload 12, 2) := by decide +kernel
theorem dL_isInstalment_211 : decode cL_isInstalment 211 = .ok (.ifCond .ge 7, 3) := by decide +kernel
theorem dL_isInstalment_214 : decode cL_isInstalment 214 = .ok (.iconst 1, 1) := by decide +kernel
theorem dL_isInstalment_215 : decode cL_isInstalment 215 = .ok (.goto 4, 3) := by decide +kernel
theorem dL_isInstalment_219 : decode cL_isInstalment 219 = .ok (.ireturn, 1) := by decide +kernel
theorem dL_isInstalment_220 : decode cL_isInstalment 220 = .ok (.iload 8, 2) := by decide +kernel
theorem dL_isInstalment_222 : decode cL_isInstalment 222 = .ok (.ifCond .gt 12, 3) := by decide +kernel
theorem dL_isInstalment_225 : decode cL_isInstalment 225 = .ok (.iload 11, 2) := by decide +kernel
theorem dL_isInstalment_227 : decode cL_isInstalment 227 = .ok (.ifCond .le 7, 3) := by decide +kernel
theorem dL_isInstalment_230 : decode cL_isInstalment 230 = .ok (.iconst 1, 1) := by decide +kernel
theorem dL_isInstalment_231 : decode cL_isInstalment 231 = .ok (.goto 4, 3) := by decide +kernel
theorem dL_isInstalment_235 : decode cL_isInstalment 235 = .ok (.ireturn, 1) := by decide +kernel
theorem dL_isInstalment_236 : decode cL_isInstalment 236 = .ok (.iload 8, 2) := by decide +kernel
theorem dL_isInstalment_238 : decode cL_isInstalment 238 = .ok (.ifCond .gt 12, 3) := by decide +kernel
theorem dL_isInstalment_24 : decode cL_isInstalment 24 = .ok (.ireturn, 1) := by decide +kernel
theorem dL_isInstalment_241 : decode cL_isInstalment 241 = .ok (.iload 11, 2) := by decide +kernel
theorem dL_isInstalment_243 : decode cL_isInstalment 243 = .ok (.ifCond .le 7, 3) := by decide +kernel
theorem dL_isInstalment_246 : decode cL_isInstalment 246 = .ok (.iconst 1, 1) := by decide +kernel
theorem dL_isInstalment_247 : decode cL_isInstalment 247 = .ok (.goto 4, 3) := by decide +kernel
theorem dL_isInstalment_25 : decode cL_isInstalment 25 = .ok (.iload 4, 2) := by decide +kernel
theorem dL_isInstalment_251 : decode cL_isInstalment 251 = .ok (.ireturn, 1) := by decide +kernel
theorem dL_isInstalment_252 : decode cL_isInstalment 252 = .ok (.iload 9, 2) := by decide +kernel
theorem dL_isInstalment_254 : decode cL_isInstalment 254 = .ok (.ifCond .le 12, 3) := by decide +kernel
theorem dL_isInstalment_257 : decode cL_isInstalment 257 = .ok (.iload 10, 2) := by decide +kernel
theorem dL_isInstalment_259 : decode cL_isInstalment 259 = .ok (.ifCond .gt 7, 3) := by decide +kernel
theorem dL_isInstalment_262 : decode cL_isInstalment 262 = .ok (.iconst 1, 1) := by decide +kernel
theorem dL_isInstalment_263 : decode cL_isInstalment 263 = .ok (.goto 4, 3) := by decide +kernel
theorem dL_isInstalment_267 : decode cL_isInstalment 267 = .ok (.ireturn, 1) := by decide +kernel
theorem dL_isInstalment_268 : decode cL_isInstalment 268 = .ok (.iload 9, 2) := by decide +kernel
theorem dL_isInstalment_27 : decode cL_isInstalment 27 = .ok (.bipush 40, 2) := by decide +kernel
theorem dL_isInstalment_270 : decode cL_isInstalment 270 = .ok (.ifCond .lt 12, 3) := by decide +kernel
theorem dL_isInstalment_273 : decode cL_isInstalment 273 = .ok (.iload 10, 2) := by decide +kernel
theorem dL_isInstalment_275 : decode cL_isInstalment 275 = .ok (.ifCond .ge 7, 3) := by decide +kernel
theorem dL_isInstalment_278 : decode cL_isInstalment 278 = .ok (.iconst 1, 1) := by decide +kernel
theorem dL_isInstalment_279 : decode cL_isInstalment 279 = .ok (.goto 4, 3) := by decide +kernel
theorem dL_isInstalment_283 : decode cL_isInstalment 283 = .ok (.ireturn, 1) := by decide +kernel
theorem dL_isInstalment_284 : decode cL_isInstalment 284 = .ok (.lload 5, 2) := by decide +kernel
theorem dL_isInstalment_286 : decode cL_isInstalment 286 = .ok (.ldc2_w 145, 3) := by decide +kernel
theorem dL_isInstalment_289 : decode cL_isInstalment 289 = .ok (.lrem, 1) := by decide +kernel
theorem dL_isInstalment_29 : decode cL_isInstalment 29 = .ok (.if_icmp .gt 20, 3) := by decide +kernel
theorem dL_isInstalment_290 : decode cL_isInstalment 290 = .ok (.lconst 0, 1) := by decide +kernel
theorem dL_isInstalment_291 : decode cL_isInstalment 291 = .ok (.lcmp, 1) := by decide +kernel
theorem dL_isInstalment_292 : decode cL_isInstalment 292 = .ok (.ifCond .ne 21, 3) := by decide +kernel
theorem dL_isInstalment_295 : decode cL_isInstalment 295 = .ok (.iload 9, 2) := by decide +kernel
theorem dL_isInstalment_297 : decode cL_isInstalment 297 = .ok (.ifCond .lt 12, 3) := by decide +kernel
theorem dL_isInstalment_300 : decode cL_isInstalment 300 = .ok (.iload 10, 2) := by decide +kernel
theorem dL_isInstalment_302 : decode cL_isInstalment 302 = .ok (.ifCond .gt 7, 3) := by decide +kernel
theorem dL_isInstalment_305 : decode cL_isInstalment 305 = .ok (.iconst 1, 1) := by decide +kernel
theorem dL_isInstalment_306 : decode cL_isInstalment 306 = .ok (.goto 22, 3) := by decide +kernel
theorem dL_isInstalment_313 : decode cL_isInstalment 313 = .ok (.iload 9, 2) := by decide +kernel
theorem dL_isInstalment_315 : decode cL_isInstalment 315 = .ok (.ifCond .le 12, 3) := by decide +kernel
theorem dL_isInstalment_318 : decode cL_isInstalment 318 = .ok (.iload 10, 2) := by decide +kernel
theorem dL_isInstalment_32 : decode cL_isInstalment 32 = .ok (.lload_n 1, 1) := by decide +kernel
theorem dL_isInstalment_320 : decode cL_isInstalment 320 = .ok (.ifCond .ge 7, 3) := by decide +kernel
theorem dL_isInstalment_323 : decode cL_isInstalment 323 = .ok (.iconst 1, 1) := by decide +kernel
theorem dL_isInstalment_324 : decode cL_isInstalment 324 = .ok (.goto 4, 3) := by decide +kernel
theorem dL_isInstalment_328 : decode cL_isInstalment 328 = .ok (.ireturn, 1) := by decide +kernel
theorem dL_isInstalment_329 : decode cL_isInstalment 329 = .ok (.iload 8, 2) := by decide +kernel
theorem dL_isInstalment_33 : decode cL_isInstalment 33 = .ok (.ldc2_w 199, 3) := by decide +kernel
theorem dL_isInstalment_331 : decode cL_isInstalment 331 = .ok (.ifCond .ne 7, 3) := by decide +kernel
theorem dL_isInstalment_334 : decode cL_isInstalment 334 = .ok (.iconst 1, 1) := by decide +kernel
theorem dL_isInstalment_335 : decode cL_isInstalment 335 = .ok (.goto 4, 3) := by decide +kernel
theorem dL_isInstalment_339 : decode cL_isInstalment 339 = .ok (.ireturn, 1) := by decide +kernel
theorem dL_isInstalment_36 : decode cL_isInstalment 36 = .ok (.lcmp, 1) := by decide +kernel
theorem dL_isInstalment_37 : decode cL_isInstalment 37 = .ok (.ifCond .gt 12, 3) := by decide +kernel
theorem dL_isInstalment_4 : decode cL_isInstalment 4 = .ok (.lload 5, 2) := by decide +kernel
theorem dL_isInstalment_40 : decode cL_isInstalment 40 = .ok (.lload 5, 2) := by decide +kernel
theorem dL_isInstalment_42 : decode cL_isInstalment 42 = .ok (.ldc2_w 199, 3) := by decide +kernel
theorem dL_isInstalment_45 : decode cL_isInstalment 45 = .ok (.lcmp, 1) := by decide +kernel
theorem dL_isInstalment_46 : decode cL_isInstalment 46 = .ok (.ifCond .le 5, 3) := by decide +kernel
theorem dL_isInstalment_49 : decode cL_isInstalment 49 = .ok (.iconst 1, 1) := by decide +kernel
theorem dL_isInstalment_50 : decode cL_isInstalment 50 = .ok (.ireturn, 1) := by decide +kernel
theorem dL_isInstalment_51 : decode cL_isInstalment 51 = .ok (.aload_n 0, 1) := by decide +kernel
theorem dL_isInstalment_52 : decode cL_isInstalment 52 = .ok (.lload_n 1, 1) := by decide +kernel
theorem dL_isInstalment_53 : decode cL_isInstalment 53 = .ok (.iload_n 3, 1) := by decide +kernel
theorem dL_isInstalment_54 : decode cL_isInstalment 54 = .ok (.iload 4, 2) := by decide +kernel
theorem dL_isInstalment_56 : decode cL_isInstalment 56 = .ok (.ldc2_w 145, 3) := by decide +kernel
theorem dL_isInstalment_59 : decode cL_isInstalment 59 = .ok (.lload 5, 2) := by decide +kernel
theorem dL_isInstalment_6 : decode cL_isInstalment 6 = .ok (.lload_n 1, 1) := by decide +kernel
theorem dL_isInstalment_61 : decode cL_isInstalment 61 = .ok (.lmul, 1) := by decide +kernel
theorem dL_isInstalment_62 : decode cL_isInstalment 62 = .ok (.invokestatic 201, 3) := by decide +kernel
theorem dL_isInstalment_65 : decode cL_isInstalment 65 = .ok (.istore 8, 2) := by decide +kernel
theorem dL_isInstalment_67 : decode cL_isInstalment 67 = .ok (.aload_n 0, 1) := by decide +kernel
theorem dL_isInstalment_68 : decode cL_isInstalment 68 = .ok (.lload_n 1, 1) := by decide +kernel
theorem dL_isInstalment_69 : decode cL_isInstalment 69 = .ok (.iload_n 3, 1) := by decide +kernel
theorem dL_isInstalment_7 : decode cL_isInstalment 7 = .ok (.iload 4, 2) := by decide +kernel
theorem dL_isInstalment_70 : decode cL_isInstalment 70 = .ok (.iload 4, 2) := by decide +kernel
theorem dL_isInstalment_72 : decode cL_isInstalment 72 = .ok (.ldc2_w 145, 3) := by decide +kernel
theorem dL_isInstalment_75 : decode cL_isInstalment 75 = .ok (.lload 5, 2) := by decide +kernel
theorem dL_isInstalment_77 : decode cL_isInstalment 77 = .ok (.lmul, 1) := by decide +kernel
theorem dL_isInstalment_78 : decode cL_isInstalment 78 = .ok (.lconst 1, 1) := by decide +kernel
theorem dL_isInstalment_79 : decode cL_isInstalment 79 = .ok (.ladd, 1) := by decide +kernel
theorem dL_isInstalment_80 : decode cL_isInstalment 80 = .ok (.invokestatic 201, 3) := by decide +kernel
theorem dL_isInstalment_83 : decode cL_isInstalment 83 = .ok (.istore 9, 2) := by decide +kernel
theorem dL_isInstalment_85 : decode cL_isInstalment 85 = .ok (.aload_n 0, 1) := by decide +kernel
theorem dL_isInstalment_86 : decode cL_isInstalment 86 = .ok (.lload_n 1, 1) := by decide +kernel
theorem dL_isInstalment_87 : decode cL_isInstalment 87 = .ok (.iload_n 3, 1) := by decide +kernel
theorem dL_isInstalment_88 : decode cL_isInstalment 88 = .ok (.iload 4, 2) := by decide +kernel
theorem dL_isInstalment_9 : decode cL_isInstalment 9 = .ok (.i2l, 1) := by decide +kernel
theorem dL_isInstalment_90 : decode cL_isInstalment 90 = .ok (.ldc2_w 145, 3) := by decide +kernel
theorem dL_isInstalment_93 : decode cL_isInstalment 93 = .ok (.lload 5, 2) := by decide +kernel
theorem dL_isInstalment_95 : decode cL_isInstalment 95 = .ok (.lmul, 1) := by decide +kernel
theorem dL_isInstalment_96 : decode cL_isInstalment 96 = .ok (.lconst 1, 1) := by decide +kernel
theorem dL_isInstalment_97 : decode cL_isInstalment 97 = .ok (.lsub, 1) := by decide +kernel
theorem dL_isInstalment_98 : decode cL_isInstalment 98 = .ok (.invokestatic 201, 3) := by decide +kernel
set_option maxRecDepth 20000 in
theorem gpL_isInstalment_L_against_wsL_against_r1 : GoodIn wsL_isInstalment wsL_against_r1 := goodIn_r _ [19, 20, 21, 22, 23, 24, 25, 26, 27, 28, 29, 30, 31, 32, 33, 34, 35, 36, 37, 38, 39, 40, 41, 42] (by decide +kernel) (by decide +kernel)
theorem gpL_isInstalment_L_against_wsL_against_r2 : GoodIn wsL_isInstalment wsL_against_r2 := goodIn_r _ [43, 44, 45, 46, 47, 48, 49, 50, 51, 52, 53, 54, 55, 56, 57, 58, 59, 60, 61, 62, 63, 64, 65, 66] (by decide +kernel) (by decide +kernel)
theorem gpL_isInstalment_L_against_wsL_against_r3 : GoodIn wsL_isInstalment wsL_against_r3 := goodIn_r _ [67, 68, 69, 70, 71, 72, 73, 74, 75, 76, 77, 78, 79, 80, 81, 82, 83, 84, 85, 86, 87, 88, 89, 90] (by decide +kernel) (by decide +kernel)
theorem gpL_isInstalment_L_against_wsL_against_r4 : GoodIn wsL_isInstalment wsL_against_r4 := goodIn_r _ [91, 92, 93, 94, 95, 96, 97, 98, 99, 100, 101, 102, 103, 104, 105, 106, 107, 108, 109, 110, 111, 112, 113, 114] (by decide +kernel) (by decide +kernel)
theorem gpL_isInstalment_L_against_wsL_against_r5 : GoodIn wsL_isInstalment wsL_against_r5 := goodIn_r _ [115, 116, 117, 118, 119, 120, 121, 122, 123, 124, 125, 126, 127, 128, 129, 130, 131, 132, 133, 134, 135, 136, 137, 138] (by decide +kernel) (by decide +kernel)
theorem gpL_isInstalment_L_against_wsL_against_r6 : GoodIn wsL_isInstalment wsL_against_r6 := goodIn_r _ [139, 140, 141, 142, 143, 144, 145, 146, 147, 148, 149, 150, 151, 152, 153, 154, 155, 156, 157, 158, 159, 160, 161, 162] (by decide +kernel) (by decide +kernel)
theorem gpL_isInstalment_L_against_wsL_against_r7 : GoodIn wsL_isInstalment wsL_against_r7 := goodIn_r _ [163, 164, 165, 166, 167, 168, 169, 170, 171, 172, 173] (by decide +kernel) (by decide +kernel)
theorem gpL_isInstalment_L_against_wsX90 : GoodIn wsL_isInstalment wsX90 := goodIn_r _ [174, 175, 176, 177, 178, 179, 180, 181] (by decide +kernel) (by decide +kernel)
theorem gpL_isInstalment_L_against_wsX50 : GoodIn wsL_isInstalment wsX50 := goodIn_r _ [182, 183, 184] (by decide +kernel) (by decide +kernel)
theorem gpL_isInstalment_L_against_wsX10 : GoodIn wsL_isInstalment wsX10 := goodIn_r _ [185, 186, 187, 188, 189, 190] (by decide +kernel) (by decide +kernel)
theorem gpL_isInstalment_L_against_wsX80 : GoodIn wsL_isInstalment wsX80 := goodIn_r _ [191, 192, 193] (by decide +kernel) (by decide +kernel)
theorem ggL_isInstalment_L_against : GoodIn wsL_isInstalment wsL_against := goodIn_ca (goodIn_ca (goodIn_cons (goodIn_r [_] [18] (by decide +kernel) (by decide +kernel)) (goodIn_app (goodIn_app (goodIn_app (goodIn_app (goodIn_app gpL_isInstalment_L_against_wsL_against_r1 (goodIn_app gpL_isInstalment_L_against_wsL_against_r2 (goodIn_app gpL_isInstalment_L_against_wsL_against_r3 (goodIn_app gpL_isInstalment_L_against_wsL_against_r4 (goodIn_app gpL_isInstalment_L_against_wsL_against_r5 (goodIn_app gpL_isInstalment_L_against_wsL_against_r6 (gpL_isInstalment_L_against_wsL_against_r7))))))) gpL_isInstalment_L_against_wsX90) gpL_isInstalment_L_against_wsX50) gpL_isInstalment_L_against_wsX10) gpL_isInstalment_L_against_wsX80)) (goodIn_sub (fun _ h => List.mem_cons_of_mem _ (List.mem_append_left _ (List.mem_append_right _ h))) (by decide +kernel))) (goodIn_sub (fun _ h => List.mem_cons_of_mem _ (List.mem_append_right _ h)) (by decide +kernel))
set_option maxRecDepth 20000 in
theorem gL_isInstalment_L_against : GoodIn wsL_isInstalment (va_wsS RL 201 yL_against wsL_against) := goodIn_app (goodIn_of _ (by decide +kernel)) ggL_isInstalment_L_against
set_option maxRecDepth 20000 in
theorem ggL_isInstalment_L_rounded : GoodIn wsL_isInstalment wsL_rounded := goodIn_r _ [6, 2, 7, 8, 9, 10, 11, 12, 13, 14, 15] (by decide +kernel) (by decide +kernel)
set_option maxRecDepth 20000 in
theorem gL_isInstalment_L_rounded : GoodIn wsL_isInstalment (va_wsS RL 158 yL_rounded wsL_rounded) := goodIn_app (goodIn_of _ (by decide +kernel)) ggL_isInstalment_L_rounded
