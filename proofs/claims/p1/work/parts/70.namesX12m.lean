-- printed rows that the walks use
theorem dX12_lend_100 : decode cX12_lend 100 = .ok (.aload 6, 2) := by decide +kernel
theorem dX12_lend_102 : decode cX12_lend 102 = .ok (.putfield 217, 3) := by decide +kernel
theorem dX12_lend_105 : decode cX12_lend 105 = .ok (.aload_n 0, 1) := by decide +kernel
theorem dX12_lend_106 : decode cX12_lend 106 = .ok (.aload 7, 2) := by decide +kernel
theorem dX12_lend_108 : decode cX12_lend 108 = .ok (.putfield 72, 3) := by decide +kernel
theorem dX12_lend_111 : decode cX12_lend 111 = .ok (.aload_n 0, 1) := by decide +kernel
theorem dX12_lend_112 : decode cX12_lend 112 = .ok (.getfield 72, 3) := by decide +kernel
theorem dX12_lend_115 : decode cX12_lend 115 = .ok (.iconst 0, 1) := by decide +kernel
theorem dX12_lend_116 : decode cX12_lend 116 = .ok (.invokeinterface 221 2, 5) := by decide +kernel
theorem dX12_lend_121 : decode cX12_lend 121 = .ok (.checkcast 225, 3) := by decide +kernel
theorem dX12_lend_124 : decode cX12_lend 124 = .ok (.bipush 6, 2) := by decide +kernel
theorem dX12_lend_126 : decode cX12_lend 126 = .ok (.laload, 1) := by decide +kernel
theorem dX12_lend_127 : decode cX12_lend 127 = .ok (.lreturn, 1) := by decide +kernel
theorem dX12_lend_31 : decode cX12_lend 31 = .ok (.iconst 1, 1) := by decide +kernel
theorem dX12_lend_32 : decode cX12_lend 32 = .ok (.goto 4, 3) := by decide +kernel
theorem dX12_lend_43 : decode cX12_lend 43 = .ok (.new 171, 3) := by decide +kernel
theorem dX12_lend_46 : decode cX12_lend 46 = .ok (.dup, 1) := by decide +kernel
theorem dX12_lend_47 : decode cX12_lend 47 = .ok (.lload_n 1, 1) := by decide +kernel
theorem dX12_lend_48 : decode cX12_lend 48 = .ok (.iload_n 3, 1) := by decide +kernel
theorem dX12_lend_49 : decode cX12_lend 49 = .ok (.iload 4, 2) := by decide +kernel
theorem dX12_lend_51 : decode cX12_lend 51 = .ok (.invokespecial 210, 3) := by decide +kernel
theorem dX12_lend_54 : decode cX12_lend 54 = .ok (.goto 4, 3) := by decide +kernel
theorem dX12_lend_65 : decode cX12_lend 65 = .ok (.aload_n 0, 1) := by decide +kernel
theorem dX12_lend_66 : decode cX12_lend 66 = .ok (.aload 6, 2) := by decide +kernel
theorem dX12_lend_68 : decode cX12_lend 68 = .ok (.invokevirtual 213, 3) := by decide +kernel
theorem dX12_lend_71 : decode cX12_lend 71 = .ok (.goto 4, 3) := by decide +kernel
theorem dX12_lend_85 : decode cX12_lend 85 = .ok (.iconst 1, 1) := by decide +kernel
theorem dX12_lend_86 : decode cX12_lend 86 = .ok (.goto 4, 3) := by decide +kernel
theorem dX12_lend_99 : decode cX12_lend 99 = .ok (.aload_n 0, 1) := by decide +kernel
theorem dX12_tableOf_0 : decode cX12_tableOf 0 = .ok (.new 69, 3) := by decide +kernel
theorem dX12_tableOf_102 : decode cX12_tableOf 102 = .ok (.ldc2_w 145, 3) := by decide +kernel
theorem dX12_tableOf_105 : decode cX12_tableOf 105 = .ok (.invokestatic 7, 3) := by decide +kernel
theorem dX12_tableOf_108 : decode cX12_tableOf 108 = .ok (.invokevirtual 111, 3) := by decide +kernel
theorem dX12_tableOf_111 : decode cX12_tableOf 111 = .ok (.astore 8, 2) := by decide +kernel
theorem dX12_tableOf_113 : decode cX12_tableOf 113 = .ok (.aload 6, 2) := by decide +kernel
theorem dX12_tableOf_115 : decode cX12_tableOf 115 = .ok (.ifnull 8, 3) := by decide +kernel
theorem dX12_tableOf_118 : decode cX12_tableOf 118 = .ok (.aload 8, 2) := by decide +kernel
theorem dX12_tableOf_12 : decode cX12_tableOf 12 = .ok (.lstore_n 3, 1) := by decide +kernel
theorem dX12_tableOf_120 : decode cX12_tableOf 120 = .ok (.ifnonnull 5, 3) := by decide +kernel
theorem dX12_tableOf_125 : decode cX12_tableOf 125 = .ok (.lload_n 3, 1) := by decide +kernel
theorem dX12_tableOf_126 : decode cX12_tableOf 126 = .ok (.aload 8, 2) := by decide +kernel
theorem dX12_tableOf_128 : decode cX12_tableOf 128 = .ok (.invokevirtual 55, 3) := by decide +kernel
theorem dX12_tableOf_13 : decode cX12_tableOf 13 = .ok (.aload_n 1, 1) := by decide +kernel
theorem dX12_tableOf_131 : decode cX12_tableOf 131 = .ok (.ladd, 1) := by decide +kernel
theorem dX12_tableOf_132 : decode cX12_tableOf 132 = .ok (.lstore 9, 2) := by decide +kernel
theorem dX12_tableOf_134 : decode cX12_tableOf 134 = .ok (.aload_n 1, 1) := by decide +kernel
theorem dX12_tableOf_135 : decode cX12_tableOf 135 = .ok (.getfield 189, 3) := by decide +kernel
theorem dX12_tableOf_138 : decode cX12_tableOf 138 = .ok (.iload 7, 2) := by decide +kernel
theorem dX12_tableOf_14 : decode cX12_tableOf 14 = .ok (.getfield 176, 3) := by decide +kernel
theorem dX12_tableOf_140 : decode cX12_tableOf 140 = .ok (.baload, 1) := by decide +kernel
theorem dX12_tableOf_141 : decode cX12_tableOf 141 = .ok (.ifCond .eq 7, 3) := by decide +kernel
theorem dX12_tableOf_148 : decode cX12_tableOf 148 = .ok (.iload 7, 2) := by decide +kernel
theorem dX12_tableOf_150 : decode cX12_tableOf 150 = .ok (.aload_n 1, 1) := by decide +kernel
theorem dX12_tableOf_151 : decode cX12_tableOf 151 = .ok (.getfield 179, 3) := by decide +kernel
theorem dX12_tableOf_154 : decode cX12_tableOf 154 = .ok (.if_icmp .ne 8, 3) := by decide +kernel
theorem dX12_tableOf_157 : decode cX12_tableOf 157 = .ok (.lload 9, 2) := by decide +kernel
theorem dX12_tableOf_159 : decode cX12_tableOf 159 = .ok (.goto 13, 3) := by decide +kernel
theorem dX12_tableOf_162 : decode cX12_tableOf 162 = .ok (.lload 9, 2) := by decide +kernel
theorem dX12_tableOf_164 : decode cX12_tableOf 164 = .ok (.aload 6, 2) := by decide +kernel
theorem dX12_tableOf_166 : decode cX12_tableOf 166 = .ok (.invokevirtual 55, 3) := by decide +kernel
theorem dX12_tableOf_169 : decode cX12_tableOf 169 = .ok (.invokestatic 193, 3) := by decide +kernel
theorem dX12_tableOf_17 : decode cX12_tableOf 17 = .ok (.istore 5, 2) := by decide +kernel
theorem dX12_tableOf_172 : decode cX12_tableOf 172 = .ok (.lstore 11, 2) := by decide +kernel
theorem dX12_tableOf_174 : decode cX12_tableOf 174 = .ok (.lload 11, 2) := by decide +kernel
theorem dX12_tableOf_176 : decode cX12_tableOf 176 = .ok (.aload_n 1, 1) := by decide +kernel
theorem dX12_tableOf_177 : decode cX12_tableOf 177 = .ok (.getfield 189, 3) := by decide +kernel
theorem dX12_tableOf_180 : decode cX12_tableOf 180 = .ok (.iload 7, 2) := by decide +kernel
theorem dX12_tableOf_182 : decode cX12_tableOf 182 = .ok (.baload, 1) := by decide +kernel
theorem dX12_tableOf_183 : decode cX12_tableOf 183 = .ok (.ifCond .eq 7, 3) := by decide +kernel
theorem dX12_tableOf_19 : decode cX12_tableOf 19 = .ok (.aload_n 0, 1) := by decide +kernel
theorem dX12_tableOf_190 : decode cX12_tableOf 190 = .ok (.aload_n 1, 1) := by decide +kernel
theorem dX12_tableOf_191 : decode cX12_tableOf 191 = .ok (.getfield 199, 3) := by decide +kernel
theorem dX12_tableOf_194 : decode cX12_tableOf 194 = .ok (.iload 7, 2) := by decide +kernel
theorem dX12_tableOf_196 : decode cX12_tableOf 196 = .ok (.laload, 1) := by decide +kernel
theorem dX12_tableOf_197 : decode cX12_tableOf 197 = .ok (.lload 9, 2) := by decide +kernel
theorem dX12_tableOf_199 : decode cX12_tableOf 199 = .ok (.lload 11, 2) := by decide +kernel
theorem dX12_tableOf_20 : decode cX12_tableOf 20 = .ok (.lload_n 3, 1) := by decide +kernel
theorem dX12_tableOf_201 : decode cX12_tableOf 201 = .ok (.lsub, 1) := by decide +kernel
theorem dX12_tableOf_202 : decode cX12_tableOf 202 = .ok (.invokestatic 193, 3) := by decide +kernel
theorem dX12_tableOf_205 : decode cX12_tableOf 205 = .ok (.ladd, 1) := by decide +kernel
theorem dX12_tableOf_206 : decode cX12_tableOf 206 = .ok (.lstore 11, 2) := by decide +kernel
theorem dX12_tableOf_208 : decode cX12_tableOf 208 = .ok (.aload_n 2, 1) := by decide +kernel
theorem dX12_tableOf_209 : decode cX12_tableOf 209 = .ok (.bipush 7, 2) := by decide +kernel
theorem dX12_tableOf_21 : decode cX12_tableOf 21 = .ok (.iload 5, 2) := by decide +kernel
theorem dX12_tableOf_211 : decode cX12_tableOf 211 = .ok (.newarray .long, 2) := by decide +kernel
theorem dX12_tableOf_213 : decode cX12_tableOf 213 = .ok (.dup, 1) := by decide +kernel
theorem dX12_tableOf_214 : decode cX12_tableOf 214 = .ok (.iconst 0, 1) := by decide +kernel
theorem dX12_tableOf_215 : decode cX12_tableOf 215 = .ok (.lload_n 3, 1) := by decide +kernel
theorem dX12_tableOf_216 : decode cX12_tableOf 216 = .ok (.lastore, 1) := by decide +kernel
theorem dX12_tableOf_217 : decode cX12_tableOf 217 = .ok (.dup, 1) := by decide +kernel
theorem dX12_tableOf_218 : decode cX12_tableOf 218 = .ok (.iconst 1, 1) := by decide +kernel
theorem dX12_tableOf_219 : decode cX12_tableOf 219 = .ok (.aload 8, 2) := by decide +kernel
theorem dX12_tableOf_221 : decode cX12_tableOf 221 = .ok (.invokevirtual 55, 3) := by decide +kernel
theorem dX12_tableOf_224 : decode cX12_tableOf 224 = .ok (.lastore, 1) := by decide +kernel
theorem dX12_tableOf_225 : decode cX12_tableOf 225 = .ok (.dup, 1) := by decide +kernel
theorem dX12_tableOf_226 : decode cX12_tableOf 226 = .ok (.iconst 2, 1) := by decide +kernel
theorem dX12_tableOf_227 : decode cX12_tableOf 227 = .ok (.lload 11, 2) := by decide +kernel
theorem dX12_tableOf_229 : decode cX12_tableOf 229 = .ok (.lastore, 1) := by decide +kernel
theorem dX12_tableOf_23 : decode cX12_tableOf 23 = .ok (.aload_n 1, 1) := by decide +kernel
theorem dX12_tableOf_230 : decode cX12_tableOf 230 = .ok (.dup, 1) := by decide +kernel
theorem dX12_tableOf_231 : decode cX12_tableOf 231 = .ok (.iconst 3, 1) := by decide +kernel
theorem dX12_tableOf_232 : decode cX12_tableOf 232 = .ok (.lload 11, 2) := by decide +kernel
theorem dX12_tableOf_234 : decode cX12_tableOf 234 = .ok (.aload 8, 2) := by decide +kernel
theorem dX12_tableOf_236 : decode cX12_tableOf 236 = .ok (.invokevirtual 55, 3) := by decide +kernel
theorem dX12_tableOf_239 : decode cX12_tableOf 239 = .ok (.lsub, 1) := by decide +kernel
theorem dX12_tableOf_24 : decode cX12_tableOf 24 = .ok (.getfield 179, 3) := by decide +kernel
theorem dX12_tableOf_240 : decode cX12_tableOf 240 = .ok (.lastore, 1) := by decide +kernel
theorem dX12_tableOf_241 : decode cX12_tableOf 241 = .ok (.dup, 1) := by decide +kernel
theorem dX12_tableOf_242 : decode cX12_tableOf 242 = .ok (.iconst 4, 1) := by decide +kernel
theorem dX12_tableOf_243 : decode cX12_tableOf 243 = .ok (.lload 9, 2) := by decide +kernel
theorem dX12_tableOf_245 : decode cX12_tableOf 245 = .ok (.lload 11, 2) := by decide +kernel
theorem dX12_tableOf_247 : decode cX12_tableOf 247 = .ok (.lsub, 1) := by decide +kernel
theorem dX12_tableOf_248 : decode cX12_tableOf 248 = .ok (.lastore, 1) := by decide +kernel
theorem dX12_tableOf_249 : decode cX12_tableOf 249 = .ok (.dup, 1) := by decide +kernel
theorem dX12_tableOf_250 : decode cX12_tableOf 250 = .ok (.iconst 5, 1) := by decide +kernel
theorem dX12_tableOf_251 : decode cX12_tableOf 251 = .ok (.iload 5, 2) := by decide +kernel
theorem dX12_tableOf_253 : decode cX12_tableOf 253 = .ok (.i2l, 1) := by decide +kernel
theorem dX12_tableOf_254 : decode cX12_tableOf 254 = .ok (.lastore, 1) := by decide +kernel
theorem dX12_tableOf_255 : decode cX12_tableOf 255 = .ok (.dup, 1) := by decide +kernel
theorem dX12_tableOf_256 : decode cX12_tableOf 256 = .ok (.bipush 6, 2) := by decide +kernel
theorem dX12_tableOf_258 : decode cX12_tableOf 258 = .ok (.aload 6, 2) := by decide +kernel
theorem dX12_tableOf_260 : decode cX12_tableOf 260 = .ok (.invokevirtual 55, 3) := by decide +kernel
theorem dX12_tableOf_263 : decode cX12_tableOf 263 = .ok (.lastore, 1) := by decide +kernel
theorem dX12_tableOf_264 : decode cX12_tableOf 264 = .ok (.invokeinterface 202 2, 5) := by decide +kernel
theorem dX12_tableOf_269 : decode cX12_tableOf 269 = .ok (.istore 13, 2) := by decide +kernel
theorem dX12_tableOf_27 : decode cX12_tableOf 27 = .ok (.invokevirtual 182, 3) := by decide +kernel
theorem dX12_tableOf_271 : decode cX12_tableOf 271 = .ok (.lload 9, 2) := by decide +kernel
theorem dX12_tableOf_273 : decode cX12_tableOf 273 = .ok (.lload 11, 2) := by decide +kernel
theorem dX12_tableOf_275 : decode cX12_tableOf 275 = .ok (.lsub, 1) := by decide +kernel
theorem dX12_tableOf_276 : decode cX12_tableOf 276 = .ok (.lstore_n 3, 1) := by decide +kernel
theorem dX12_tableOf_277 : decode cX12_tableOf 277 = .ok (.iinc 7 1, 3) := by decide +kernel
theorem dX12_tableOf_280 : decode cX12_tableOf 280 = .ok (.goto (-245), 3) := by decide +kernel
theorem dX12_tableOf_283 : decode cX12_tableOf 283 = .ok (.aload_n 2, 1) := by decide +kernel
theorem dX12_tableOf_284 : decode cX12_tableOf 284 = .ok (.areturn, 1) := by decide +kernel
theorem dX12_tableOf_3 : decode cX12_tableOf 3 = .ok (.dup, 1) := by decide +kernel
theorem dX12_tableOf_30 : decode cX12_tableOf 30 = .ok (.astore 6, 2) := by decide +kernel
theorem dX12_tableOf_32 : decode cX12_tableOf 32 = .ok (.iconst 1, 1) := by decide +kernel
theorem dX12_tableOf_33 : decode cX12_tableOf 33 = .ok (.istore 7, 2) := by decide +kernel
theorem dX12_tableOf_35 : decode cX12_tableOf 35 = .ok (.iload 7, 2) := by decide +kernel
theorem dX12_tableOf_37 : decode cX12_tableOf 37 = .ok (.aload_n 1, 1) := by decide +kernel
theorem dX12_tableOf_38 : decode cX12_tableOf 38 = .ok (.getfield 179, 3) := by decide +kernel
theorem dX12_tableOf_4 : decode cX12_tableOf 4 = .ok (.invokespecial 71, 3) := by decide +kernel
theorem dX12_tableOf_41 : decode cX12_tableOf 41 = .ok (.if_icmp .gt 242, 3) := by decide +kernel
theorem dX12_tableOf_44 : decode cX12_tableOf 44 = .ok (.lload_n 3, 1) := by decide +kernel
theorem dX12_tableOf_45 : decode cX12_tableOf 45 = .ok (.lconst 0, 1) := by decide +kernel
theorem dX12_tableOf_46 : decode cX12_tableOf 46 = .ok (.lcmp, 1) := by decide +kernel
theorem dX12_tableOf_47 : decode cX12_tableOf 47 = .ok (.ifCond .le 236, 3) := by decide +kernel
theorem dX12_tableOf_50 : decode cX12_tableOf 50 = .ok (.aload_n 1, 1) := by decide +kernel
theorem dX12_tableOf_51 : decode cX12_tableOf 51 = .ok (.getfield 186, 3) := by decide +kernel
theorem dX12_tableOf_54 : decode cX12_tableOf 54 = .ok (.iload 7, 2) := by decide +kernel
theorem dX12_tableOf_56 : decode cX12_tableOf 56 = .ok (.iaload, 1) := by decide +kernel
theorem dX12_tableOf_57 : decode cX12_tableOf 57 = .ok (.iconst (-1), 1) := by decide +kernel
theorem dX12_tableOf_58 : decode cX12_tableOf 58 = .ok (.if_icmp .eq 30, 3) := by decide +kernel
theorem dX12_tableOf_7 : decode cX12_tableOf 7 = .ok (.astore_n 2, 1) := by decide +kernel
theorem dX12_tableOf_8 : decode cX12_tableOf 8 = .ok (.aload_n 1, 1) := by decide +kernel
theorem dX12_tableOf_88 : decode cX12_tableOf 88 = .ok (.aload_n 0, 1) := by decide +kernel
theorem dX12_tableOf_89 : decode cX12_tableOf 89 = .ok (.lload_n 3, 1) := by decide +kernel
theorem dX12_tableOf_9 : decode cX12_tableOf 9 = .ok (.getfield 170, 3) := by decide +kernel
theorem dX12_tableOf_90 : decode cX12_tableOf 90 = .ok (.invokestatic 7, 3) := by decide +kernel
theorem dX12_tableOf_93 : decode cX12_tableOf 93 = .ok (.iload 5, 2) := by decide +kernel
theorem dX12_tableOf_95 : decode cX12_tableOf 95 = .ok (.i2l, 1) := by decide +kernel
theorem dX12_tableOf_96 : decode cX12_tableOf 96 = .ok (.invokestatic 7, 3) := by decide +kernel
theorem dX12_tableOf_99 : decode cX12_tableOf 99 = .ok (.invokevirtual 13, 3) := by decide +kernel
set_option maxRecDepth 20000 in
theorem ggX12_lend_Jx4a65c_get_915e3 : GoodIn wsX12_lend wsJx4a65c_get_915e3 := goodIn_r _ [224, 174, 225, 226, 227, 228, 229, 230, 231, 232, 233, 234, 235, 38, 236, 48, 255, 256, 257] (by decide +kernel) (by decide +kernel)
set_option maxRecDepth 20000 in
theorem gX12_lend_Jx4a65c_get_915e3_f221Jx4a65c : GoodIn wsX12_lend (va_wsF RX12 221 RJx4a65c ⟨"java/util/List", "get", "(I)Ljava/lang/Object;"⟩ yJx4a65c_get_915e3 wsJx4a65c_get_915e3) := goodIn_app (goodIn_of _ (by decide +kernel)) ggX12_lend_Jx4a65c_get_915e3
set_option maxRecDepth 20000 in
theorem ggX12_lend_X10_init : GoodIn wsX12_lend wsX10_init := goodIn_r _ [19, 20, 21, 22, 23, 24, 25, 26, 27, 28, 29, 30, 31, 237, 238, 239, 240, 241, 242] (by decide +kernel) (by decide +kernel)
set_option maxRecDepth 20000 in
theorem gX12_lend_X10_init : GoodIn wsX12_lend (wsX10_init) := ggX12_lend_X10_init
set_option maxRecDepth 20000 in
theorem ggX12_lend_X12_tableOf : GoodIn wsX12_lend wsX12_tableOf := goodIn_r _ [35, 36, 37, 38, 39, 40, 41, 42, 43, 27, 44, 45, 46, 47, 48, 49, 50, 51, 52, 53, 54, 55, 56, 57, 58, 21, 22, 59, 60, 61, 11, 62, 63, 64, 65, 66, 25, 67, 68, 69, 70, 71, 72, 73, 74, 75, 76, 77, 78, 79, 80, 81, 82, 83, 84, 85, 86, 87, 88, 89, 90, 91, 92, 93, 94, 95, 96, 97, 98, 99, 100, 101, 102, 103, 104, 105, 106, 107, 108, 109, 110, 111, 112, 113, 114, 115, 116, 117, 118, 119, 120, 121, 122, 123, 124, 125, 126, 127, 128, 129, 130, 131, 132, 133, 134, 135, 136, 137, 138, 139, 140, 141, 142, 143, 144, 145, 146, 147, 148, 149, 150, 151, 152, 153, 154, 155, 156, 157, 158, 159, 160, 161, 162, 163, 164, 165, 166, 167, 168, 169, 170, 171, 172, 173, 174, 175, 176, 177, 178, 179, 180, 181, 182, 183, 184, 185, 186, 187, 188, 189, 190, 191, 192, 193, 194, 195, 196, 197, 198, 199, 200, 201, 202, 203, 204, 205, 206, 207, 208, 209, 210, 211, 212, 213, 214, 215, 255, 256, 257, 237, 238, 239, 240, 241, 242, 258, 259, 243, 244, 245, 246, 247, 248, 249, 250, 251, 252, 253, 254] (by decide +kernel) (by decide +kernel)
set_option maxRecDepth 20000 in
theorem gX12_lend_X12_tableOf : GoodIn wsX12_lend (wsV RX12 213 RX12 yX12_tableOf wsX12_tableOf) := goodIn_app (goodIn_of _ (by decide +kernel)) ggX12_lend_X12_tableOf
set_option maxRecDepth 20000 in
theorem ggX12_tableOf_Jx4a65c_add_9ea2d : GoodIn wsX12_tableOf wsJx4a65c_add_9ea2d := goodIn_r _ [141, 142, 143, 14, 144, 145, 146, 147, 3, 148, 149, 150, 151, 152, 153, 154, 155, 156, 13, 157, 82, 7, 83, 158, 159, 160, 161, 162, 163, 164, 165, 166, 167, 168, 169, 170, 171, 172, 173, 174, 175, 176, 177, 178, 179, 180, 181, 92, 93, 182, 183, 184, 185, 186, 187, 188] (by decide +kernel) (by decide +kernel)
set_option maxRecDepth 20000 in
theorem gX12_tableOf_Jx4a65c_add_9ea2d_f202Jx4a65c : GoodIn wsX12_tableOf (va_wsF RX12 202 RJx4a65c ⟨"java/util/List", "add", "(Ljava/lang/Object;)Z"⟩ yJx4a65c_add_9ea2d wsJx4a65c_add_9ea2d) := goodIn_app (goodIn_of _ (by decide +kernel)) ggX12_tableOf_Jx4a65c_add_9ea2d
set_option maxRecDepth 20000 in
theorem ggX12_tableOf_Jx4a65c_init_da8c8 : GoodIn wsX12_tableOf wsJx4a65c_init_da8c8 := goodIn_r _ [12, 13, 14, 15, 16, 17, 18, 19, 20, 21, 22, 23, 24, 25, 26, 186, 187, 188] (by decide +kernel) (by decide +kernel)
set_option maxRecDepth 20000 in
theorem gX12_tableOf_Jx4a65c_init_da8c8 : GoodIn wsX12_tableOf (wsJx4a65c_init_da8c8) := ggX12_tableOf_Jx4a65c_init_da8c8
set_option maxRecDepth 20000 in
theorem ggX12_tableOf_X11_number : GoodIn wsX12_tableOf wsX11_number := goodIn_r _ [137, 48, 37, 47, 195, 196] (by decide +kernel) (by decide +kernel)
set_option maxRecDepth 20000 in
theorem gX12_tableOf_X11_number : GoodIn wsX12_tableOf (wsV RX12 55 RX11 yX11_number wsX11_number) := goodIn_app (goodIn_of _ (by decide +kernel)) ggX12_tableOf_X11_number
set_option maxRecDepth 20000 in
theorem ggX12_tableOf_X11_of : GoodIn wsX12_tableOf wsX11_of := goodIn_r _ [35, 36, 37, 38, 39, 7, 40, 41, 42, 34, 43, 44, 45, 46, 25, 26, 47, 48, 195, 196] (by decide +kernel) (by decide +kernel)
set_option maxRecDepth 20000 in
theorem gX12_tableOf_X11_of : GoodIn wsX12_tableOf (va_wsS RX12 7 yX11_of wsX11_of) := goodIn_app (goodIn_of _ (by decide +kernel)) ggX12_tableOf_X11_of
set_option maxRecDepth 20000 in
theorem ggX12_tableOf_X11_times : GoodIn wsX12_tableOf wsX11_times := goodIn_r _ [97, 48, 36, 41, 42, 34, 47, 84, 85, 86, 87, 43, 44, 45, 46, 25, 26, 195, 196] (by decide +kernel) (by decide +kernel)
set_option maxRecDepth 20000 in
theorem gX12_tableOf_X11_times : GoodIn wsX12_tableOf (wsV RX12 13 RX11 yX11_times wsX11_times) := goodIn_app (goodIn_of _ (by decide +kernel)) ggX12_tableOf_X11_times
set_option maxRecDepth 20000 in
theorem ggX12_tableOf_X12_instalment : GoodIn wsX12_tableOf wsX12_instalment := goodIn_r _ [31, 4, 32, 33, 34, 35, 36, 37, 38, 39, 7, 40, 41, 42, 43, 44, 45, 46, 25, 26, 47, 48, 49, 50, 51, 30, 52, 53, 54, 55, 56, 57, 58, 59, 60, 61, 62, 63, 64, 65, 66, 67, 68, 69, 70, 71, 72, 73, 74, 75, 76, 77, 78, 79, 80, 81, 82, 83, 84, 85, 86, 87, 88, 89, 90, 91, 92, 93, 94, 95, 96, 97, 98, 99, 100, 101, 102, 103, 104, 105, 106, 107, 108, 109, 110, 111, 112, 113, 114, 115, 116, 117, 118, 119, 120, 121, 122, 123, 124, 125, 126, 127, 128, 129, 130, 131, 132, 133, 195, 196, 197, 198, 199, 200, 201, 202, 203, 204, 205, 206, 207, 208] (by decide +kernel) (by decide +kernel)
set_option maxRecDepth 20000 in
theorem gX12_tableOf_X12_instalment : GoodIn wsX12_tableOf (wsV RX12 182 RX12 yX12_instalment wsX12_instalment) := goodIn_app (goodIn_of _ (by decide +kernel)) ggX12_tableOf_X12_instalment
set_option maxRecDepth 20000 in
theorem ggX12_tableOf_X12_rounded : GoodIn wsX12_tableOf wsX12_rounded := goodIn_r _ [52, 53, 54, 55, 56, 57, 34, 58, 47, 59, 60, 61, 62, 41, 42, 48, 43, 44, 45, 46, 25, 26, 36, 63, 64, 65, 66, 67, 33, 35, 37, 38, 39, 7, 40, 68, 69, 70, 71, 72, 73, 74, 75, 76, 77, 78, 79, 80, 81, 82, 83, 84, 85, 86, 87, 88, 89, 90, 91, 92, 93, 94, 95, 96, 97, 98, 99, 100, 101, 102, 103, 104, 105, 106, 107, 108, 109, 110, 111, 112, 113, 114, 115, 116, 117, 118, 119, 120, 121, 122, 30, 123, 32, 124, 197, 198, 199, 200, 201, 202, 203, 204, 205, 206, 207, 208, 195, 196] (by decide +kernel) (by decide +kernel)
set_option maxRecDepth 20000 in
theorem gX12_tableOf_X12_rounded : GoodIn wsX12_tableOf (wsV RX12 111 RX12 yX12_rounded wsX12_rounded) := goodIn_app (goodIn_of _ (by decide +kernel)) ggX12_tableOf_X12_rounded
