theorem dX11_produces_218 : decode cX11_produces 218 = .ok (.laload, 1) := by decide +kernel
theorem dX11_produces_219 : decode cX11_produces 219 = .ok (.aload_n 0, 1) := by decide +kernel
theorem dX11_produces_220 : decode cX11_produces 220 = .ok (.bipush 12, 2) := by decide +kernel
theorem dX11_produces_222 : decode cX11_produces 222 = .ok (.invokevirtual 72, 3) := by decide +kernel
theorem dX11_produces_225 : decode cX11_produces 225 = .ok (.lsub, 1) := by decide +kernel
theorem dX11_produces_226 : decode cX11_produces 226 = .ok (.lastore, 1) := by decide +kernel
theorem dX11_produces_227 : decode cX11_produces 227 = .ok (.aload_n 0, 1) := by decide +kernel
theorem dX11_produces_228 : decode cX11_produces 228 = .ok (.getfield 7, 3) := by decide +kernel
theorem dX11_produces_231 : decode cX11_produces 231 = .ok (.bipush 108, 2) := by decide +kernel
theorem dX11_produces_233 : decode cX11_produces 233 = .ok (.dup2, 1) := by decide +kernel
theorem dX11_produces_234 : decode cX11_produces 234 = .ok (.laload, 1) := by decide +kernel
theorem dX11_produces_235 : decode cX11_produces 235 = .ok (.aload_n 0, 1) := by decide +kernel
theorem dX11_produces_236 : decode cX11_produces 236 = .ok (.bipush 12, 2) := by decide +kernel
theorem dX11_produces_238 : decode cX11_produces 238 = .ok (.invokevirtual 72, 3) := by decide +kernel
theorem dX11_produces_241 : decode cX11_produces 241 = .ok (.ladd, 1) := by decide +kernel
theorem dX11_produces_242 : decode cX11_produces 242 = .ok (.lastore, 1) := by decide +kernel
theorem dX11_produces_243 : decode cX11_produces 243 = .ok (.ldc2_w 35, 3) := by decide +kernel
theorem dX11_produces_246 : decode cX11_produces 246 = .ok (.lstore 5, 2) := by decide +kernel
theorem dX11_produces_248 : decode cX11_produces 248 = .ok (.aload_n 0, 1) := by decide +kernel
theorem dX11_produces_249 : decode cX11_produces 249 = .ok (.getfield 7, 3) := by decide +kernel
theorem dX11_produces_252 : decode cX11_produces 252 = .ok (.bipush 112, 2) := by decide +kernel
theorem dX11_produces_254 : decode cX11_produces 254 = .ok (.dup2, 1) := by decide +kernel
theorem dX11_produces_255 : decode cX11_produces 255 = .ok (.laload, 1) := by decide +kernel
theorem dX11_produces_256 : decode cX11_produces 256 = .ok (.lload 5, 2) := by decide +kernel
theorem dX11_produces_258 : decode cX11_produces 258 = .ok (.ladd, 1) := by decide +kernel
theorem dX11_produces_259 : decode cX11_produces 259 = .ok (.lastore, 1) := by decide +kernel
theorem dX11_produces_260 : decode cX11_produces 260 = .ok (.aload_n 0, 1) := by decide +kernel
theorem dX11_produces_261 : decode cX11_produces 261 = .ok (.getfield 7, 3) := by decide +kernel
theorem dX11_produces_264 : decode cX11_produces 264 = .ok (.bipush 113, 2) := by decide +kernel
theorem dX11_produces_266 : decode cX11_produces 266 = .ok (.dup2, 1) := by decide +kernel
theorem dX11_produces_267 : decode cX11_produces 267 = .ok (.laload, 1) := by decide +kernel
theorem dX11_produces_268 : decode cX11_produces 268 = .ok (.lload 5, 2) := by decide +kernel
theorem dX11_produces_270 : decode cX11_produces 270 = .ok (.aload_n 0, 1) := by decide +kernel
theorem dX11_produces_271 : decode cX11_produces 271 = .ok (.getfield 7, 3) := by decide +kernel
theorem dX11_produces_274 : decode cX11_produces 274 = .ok (.bipush 65, 2) := by decide +kernel
theorem dX11_produces_276 : decode cX11_produces 276 = .ok (.lload_n 3, 1) := by decide +kernel
theorem dX11_produces_277 : decode cX11_produces 277 = .ok (.l2i, 1) := by decide +kernel
theorem dX11_produces_278 : decode cX11_produces 278 = .ok (.iadd, 1) := by decide +kernel
theorem dX11_produces_279 : decode cX11_produces 279 = .ok (.laload, 1) := by decide +kernel
theorem dX11_produces_280 : decode cX11_produces 280 = .ok (.lmul, 1) := by decide +kernel
theorem dX11_produces_281 : decode cX11_produces 281 = .ok (.ladd, 1) := by decide +kernel
theorem dX11_produces_282 : decode cX11_produces 282 = .ok (.lastore, 1) := by decide +kernel
theorem dX11_produces_283 : decode cX11_produces 283 = .ok (.return_, 1) := by decide +kernel
theorem dX11_draws_0 : decode cX11_draws 0 = .ok (.aload_n 0, 1) := by decide +kernel
theorem dX11_draws_1 : decode cX11_draws 1 = .ok (.getfield 7, 3) := by decide +kernel
theorem dX11_draws_4 : decode cX11_draws 4 = .ok (.bipush 82, 2) := by decide +kernel
theorem dX11_draws_6 : decode cX11_draws 6 = .ok (.laload, 1) := by decide +kernel
theorem dX11_draws_7 : decode cX11_draws 7 = .ok (.ldc2_w 35, 3) := by decide +kernel
theorem dX11_draws_10 : decode cX11_draws 10 = .ok (.aload_n 0, 1) := by decide +kernel
theorem dX11_draws_11 : decode cX11_draws 11 = .ok (.getfield 7, 3) := by decide +kernel
theorem dX11_draws_14 : decode cX11_draws 14 = .ok (.bipush 81, 2) := by decide +kernel
theorem dX11_draws_16 : decode cX11_draws 16 = .ok (.laload, 1) := by decide +kernel
theorem dX11_draws_17 : decode cX11_draws 17 = .ok (.lmul, 1) := by decide +kernel
theorem dX11_draws_18 : decode cX11_draws 18 = .ok (.lsub, 1) := by decide +kernel
theorem dX11_draws_19 : decode cX11_draws 19 = .ok (.lstore_n 3, 1) := by decide +kernel
theorem dX11_draws_20 : decode cX11_draws 20 = .ok (.lload_n 1, 1) := by decide +kernel
theorem dX11_draws_21 : decode cX11_draws 21 = .ok (.lload_n 3, 1) := by decide +kernel
theorem dX11_draws_22 : decode cX11_draws 22 = .ok (.lcmp, 1) := by decide +kernel
theorem dX11_draws_23 : decode cX11_draws 23 = .ok (.ifCond .ge 7, 3) := by decide +kernel
theorem dX11_draws_26 : decode cX11_draws 26 = .ok (.lload_n 1, 1) := by decide +kernel
theorem dX11_draws_27 : decode cX11_draws 27 = .ok (.goto 4, 3) := by decide +kernel
theorem dX11_draws_30 : decode cX11_draws 30 = .ok (.lload_n 3, 1) := by decide +kernel
theorem dX11_draws_31 : decode cX11_draws 31 = .ok (.lstore 5, 2) := by decide +kernel
theorem dX11_draws_33 : decode cX11_draws 33 = .ok (.lload 5, 2) := by decide +kernel
theorem dX11_draws_35 : decode cX11_draws 35 = .ok (.lconst 0, 1) := by decide +kernel
theorem dX11_draws_36 : decode cX11_draws 36 = .ok (.lcmp, 1) := by decide +kernel
theorem dX11_draws_37 : decode cX11_draws 37 = .ok (.ifCond .ge 7, 3) := by decide +kernel
theorem dX11_draws_40 : decode cX11_draws 40 = .ok (.lconst 0, 1) := by decide +kernel
theorem dX11_draws_41 : decode cX11_draws 41 = .ok (.goto 5, 3) := by decide +kernel
theorem dX11_draws_44 : decode cX11_draws 44 = .ok (.lload 5, 2) := by decide +kernel
theorem dX11_draws_46 : decode cX11_draws 46 = .ok (.lstore 5, 2) := by decide +kernel
theorem dX11_draws_48 : decode cX11_draws 48 = .ok (.aload_n 0, 1) := by decide +kernel
theorem dX11_draws_49 : decode cX11_draws 49 = .ok (.getfield 7, 3) := by decide +kernel
theorem dX11_draws_52 : decode cX11_draws 52 = .ok (.bipush 82, 2) := by decide +kernel
theorem dX11_draws_54 : decode cX11_draws 54 = .ok (.dup2, 1) := by decide +kernel
theorem dX11_draws_55 : decode cX11_draws 55 = .ok (.laload, 1) := by decide +kernel
theorem dX11_draws_56 : decode cX11_draws 56 = .ok (.lload 5, 2) := by decide +kernel
theorem dX11_draws_58 : decode cX11_draws 58 = .ok (.lsub, 1) := by decide +kernel
theorem dX11_draws_59 : decode cX11_draws 59 = .ok (.lastore, 1) := by decide +kernel
theorem dX11_draws_60 : decode cX11_draws 60 = .ok (.aload_n 0, 1) := by decide +kernel
theorem dX11_draws_61 : decode cX11_draws 61 = .ok (.getfield 7, 3) := by decide +kernel
theorem dX11_draws_64 : decode cX11_draws 64 = .ok (.bipush 109, 2) := by decide +kernel
theorem dX11_draws_66 : decode cX11_draws 66 = .ok (.dup2, 1) := by decide +kernel
theorem dX11_draws_67 : decode cX11_draws 67 = .ok (.laload, 1) := by decide +kernel
theorem dX11_draws_68 : decode cX11_draws 68 = .ok (.lload 5, 2) := by decide +kernel
theorem dX11_draws_70 : decode cX11_draws 70 = .ok (.ladd, 1) := by decide +kernel
theorem dX11_draws_71 : decode cX11_draws 71 = .ok (.lastore, 1) := by decide +kernel
theorem dX11_draws_72 : decode cX11_draws 72 = .ok (.aload_n 0, 1) := by decide +kernel
theorem dX11_draws_73 : decode cX11_draws 73 = .ok (.getfield 7, 3) := by decide +kernel
theorem dX11_draws_76 : decode cX11_draws 76 = .ok (.bipush 110, 2) := by decide +kernel
theorem dX11_draws_78 : decode cX11_draws 78 = .ok (.dup2, 1) := by decide +kernel
theorem dX11_draws_79 : decode cX11_draws 79 = .ok (.laload, 1) := by decide +kernel
theorem dX11_draws_80 : decode cX11_draws 80 = .ok (.lload_n 1, 1) := by decide +kernel
theorem dX11_draws_81 : decode cX11_draws 81 = .ok (.lload 5, 2) := by decide +kernel
theorem dX11_draws_83 : decode cX11_draws 83 = .ok (.lsub, 1) := by decide +kernel
theorem dX11_draws_84 : decode cX11_draws 84 = .ok (.ladd, 1) := by decide +kernel
theorem dX11_draws_85 : decode cX11_draws 85 = .ok (.lastore, 1) := by decide +kernel
theorem dX11_draws_86 : decode cX11_draws 86 = .ok (.return_, 1) := by decide +kernel
set_option maxRecDepth 20000 in
theorem ggX11_settles_X11_warmth : GoodIn wsX11_settles wsX11_warmth := goodIn_r _ [9, 3, 10, 11, 8, 12, 17, 18, 19, 20, 21, 22, 23, 24, 25, 26] (by decide +kernel) (by decide +kernel)
set_option maxRecDepth 20000 in
theorem gX11_settles_X11_warmth : GoodIn wsX11_settles (wsV RX11 115 RX11 yX11_warmth wsX11_warmth) := goodIn_app (goodIn_of _ (by decide +kernel)) ggX11_settles_X11_warmth
set_option maxRecDepth 20000 in
theorem ggX11_settles_X11_set1 : GoodIn wsX11_settles wsX11_set1 := goodIn_r _ [16, 3, 17, 18, 19, 20, 21, 22, 23, 24, 25, 26] (by decide +kernel) (by decide +kernel)
set_option maxRecDepth 20000 in
theorem gX11_settles_X11_set1 : GoodIn wsX11_settles (wsV RX11 72 RX11 yX11_set1 wsX11_set1) := goodIn_app (goodIn_of _ (by decide +kernel)) ggX11_settles_X11_set1
set_option maxRecDepth 20000 in
theorem ggX11_settles_X11_div : GoodIn wsX11_settles wsX11_div := goodIn_r _ [12] (by decide +kernel) (by decide +kernel)
set_option maxRecDepth 20000 in
theorem gX11_settles_X11_div : GoodIn wsX11_settles (va_wsS RX11 84 yX11_div wsX11_div) := goodIn_app (goodIn_of _ (by decide +kernel)) ggX11_settles_X11_div
theorem dX11_settles_0 : decode cX11_settles 0 = .ok (.iconst 0, 1) := by decide +kernel
theorem dX11_settles_1 : decode cX11_settles 1 = .ok (.istore_n 1, 1) := by decide +kernel
theorem dX11_settles_2 : decode cX11_settles 2 = .ok (.iload_n 1, 1) := by decide +kernel
theorem dX11_settles_3 : decode cX11_settles 3 = .ok (.iconst 4, 1) := by decide +kernel
theorem dX11_settles_4 : decode cX11_settles 4 = .ok (.if_icmp .ge 68, 3) := by decide +kernel
theorem dX11_settles_7 : decode cX11_settles 7 = .ok (.aload_n 0, 1) := by decide +kernel
theorem dX11_settles_8 : decode cX11_settles 8 = .ok (.iload_n 1, 1) := by decide +kernel
theorem dX11_settles_9 : decode cX11_settles 9 = .ok (.invokevirtual 115, 3) := by decide +kernel
theorem dX11_settles_12 : decode cX11_settles 12 = .ok (.ldc2_w 35, 3) := by decide +kernel
theorem dX11_settles_15 : decode cX11_settles 15 = .ok (.lsub, 1) := by decide +kernel
theorem dX11_settles_16 : decode cX11_settles 16 = .ok (.aload_n 0, 1) := by decide +kernel
theorem dX11_settles_17 : decode cX11_settles 17 = .ok (.bipush 13, 2) := by decide +kernel
theorem dX11_settles_19 : decode cX11_settles 19 = .ok (.invokevirtual 72, 3) := by decide +kernel
theorem dX11_settles_22 : decode cX11_settles 22 = .ok (.lmul, 1) := by decide +kernel
theorem dX11_settles_23 : decode cX11_settles 23 = .ok (.ldc2_w 23, 3) := by decide +kernel
theorem dX11_settles_26 : decode cX11_settles 26 = .ok (.invokestatic 84, 3) := by decide +kernel
theorem dX11_settles_29 : decode cX11_settles 29 = .ok (.lstore_n 2, 1) := by decide +kernel
theorem dX11_settles_30 : decode cX11_settles 30 = .ok (.lload_n 2, 1) := by decide +kernel
theorem dX11_settles_31 : decode cX11_settles 31 = .ok (.lconst 0, 1) := by decide +kernel
theorem dX11_settles_32 : decode cX11_settles 32 = .ok (.lcmp, 1) := by decide +kernel
theorem dX11_settles_33 : decode cX11_settles 33 = .ok (.ifCond .ge 7, 3) := by decide +kernel
theorem dX11_settles_36 : decode cX11_settles 36 = .ok (.lconst 0, 1) := by decide +kernel
theorem dX11_settles_37 : decode cX11_settles 37 = .ok (.goto 4, 3) := by decide +kernel
theorem dX11_settles_40 : decode cX11_settles 40 = .ok (.lload_n 2, 1) := by decide +kernel
theorem dX11_settles_41 : decode cX11_settles 41 = .ok (.lstore_n 2, 1) := by decide +kernel
theorem dX11_settles_42 : decode cX11_settles 42 = .ok (.aload_n 0, 1) := by decide +kernel
theorem dX11_settles_43 : decode cX11_settles 43 = .ok (.getfield 7, 3) := by decide +kernel
theorem dX11_settles_46 : decode cX11_settles 46 = .ok (.bipush 82, 2) := by decide +kernel
theorem dX11_settles_48 : decode cX11_settles 48 = .ok (.iload_n 1, 1) := by decide +kernel
theorem dX11_settles_49 : decode cX11_settles 49 = .ok (.iadd, 1) := by decide +kernel
theorem dX11_settles_50 : decode cX11_settles 50 = .ok (.dup2, 1) := by decide +kernel
theorem dX11_settles_51 : decode cX11_settles 51 = .ok (.laload, 1) := by decide +kernel
theorem dX11_settles_52 : decode cX11_settles 52 = .ok (.lload_n 2, 1) := by decide +kernel
theorem dX11_settles_53 : decode cX11_settles 53 = .ok (.lsub, 1) := by decide +kernel
theorem dX11_settles_54 : decode cX11_settles 54 = .ok (.lastore, 1) := by decide +kernel
theorem dX11_settles_55 : decode cX11_settles 55 = .ok (.aload_n 0, 1) := by decide +kernel
theorem dX11_settles_56 : decode cX11_settles 56 = .ok (.getfield 7, 3) := by decide +kernel
theorem dX11_settles_59 : decode cX11_settles 59 = .ok (.bipush 111, 2) := by decide +kernel
theorem dX11_settles_61 : decode cX11_settles 61 = .ok (.dup2, 1) := by decide +kernel
theorem dX11_settles_62 : decode cX11_settles 62 = .ok (.laload, 1) := by decide +kernel
theorem dX11_settles_63 : decode cX11_settles 63 = .ok (.lload_n 2, 1) := by decide +kernel
theorem dX11_settles_64 : decode cX11_settles 64 = .ok (.ladd, 1) := by decide +kernel
theorem dX11_settles_65 : decode cX11_settles 65 = .ok (.lastore, 1) := by decide +kernel
theorem dX11_settles_66 : decode cX11_settles 66 = .ok (.iinc 1 1, 3) := by decide +kernel
theorem dX11_settles_69 : decode cX11_settles 69 = .ok (.goto (-67), 3) := by decide +kernel
theorem dX11_settles_72 : decode cX11_settles 72 = .ok (.iconst 2, 1) := by decide +kernel
theorem dX11_settles_73 : decode cX11_settles 73 = .ok (.istore_n 1, 1) := by decide +kernel
theorem dX11_settles_74 : decode cX11_settles 74 = .ok (.iload_n 1, 1) := by decide +kernel
theorem dX11_settles_75 : decode cX11_settles 75 = .ok (.ifCond .lt 87, 3) := by decide +kernel
theorem dX11_settles_78 : decode cX11_settles 78 = .ok (.aload_n 0, 1) := by decide +kernel
theorem dX11_settles_79 : decode cX11_settles 79 = .ok (.iload_n 1, 1) := by decide +kernel
theorem dX11_settles_80 : decode cX11_settles 80 = .ok (.invokevirtual 115, 3) := by decide +kernel
theorem dX11_settles_83 : decode cX11_settles 83 = .ok (.aload_n 0, 1) := by decide +kernel
theorem dX11_settles_84 : decode cX11_settles 84 = .ok (.iload_n 1, 1) := by decide +kernel
theorem dX11_settles_85 : decode cX11_settles 85 = .ok (.iconst 1, 1) := by decide +kernel
theorem dX11_settles_86 : decode cX11_settles 86 = .ok (.iadd, 1) := by decide +kernel
theorem dX11_settles_87 : decode cX11_settles 87 = .ok (.invokevirtual 115, 3) := by decide +kernel
theorem dX11_settles_90 : decode cX11_settles 90 = .ok (.lcmp, 1) := by decide +kernel
theorem dX11_settles_91 : decode cX11_settles 91 = .ok (.ifCond .ge 65, 3) := by decide +kernel
theorem dX11_settles_94 : decode cX11_settles 94 = .ok (.aload_n 0, 1) := by decide +kernel
theorem dX11_settles_95 : decode cX11_settles 95 = .ok (.getfield 7, 3) := by decide +kernel
theorem dX11_settles_98 : decode cX11_settles 98 = .ok (.bipush 82, 2) := by decide +kernel
theorem dX11_settles_100 : decode cX11_settles 100 = .ok (.iload_n 1, 1) := by decide +kernel
theorem dX11_settles_101 : decode cX11_settles 101 = .ok (.iadd, 1) := by decide +kernel
theorem dX11_settles_102 : decode cX11_settles 102 = .ok (.laload, 1) := by decide +kernel
theorem dX11_settles_103 : decode cX11_settles 103 = .ok (.aload_n 0, 1) := by decide +kernel
theorem dX11_settles_104 : decode cX11_settles 104 = .ok (.getfield 7, 3) := by decide +kernel
theorem dX11_settles_107 : decode cX11_settles 107 = .ok (.bipush 82, 2) := by decide +kernel
theorem dX11_settles_109 : decode cX11_settles 109 = .ok (.iload_n 1, 1) := by decide +kernel
theorem dX11_settles_110 : decode cX11_settles 110 = .ok (.iadd, 1) := by decide +kernel
theorem dX11_settles_111 : decode cX11_settles 111 = .ok (.iconst 1, 1) := by decide +kernel
theorem dX11_settles_112 : decode cX11_settles 112 = .ok (.iadd, 1) := by decide +kernel
theorem dX11_settles_113 : decode cX11_settles 113 = .ok (.laload, 1) := by decide +kernel
theorem dX11_settles_114 : decode cX11_settles 114 = .ok (.ladd, 1) := by decide +kernel
theorem dX11_settles_115 : decode cX11_settles 115 = .ok (.lstore_n 2, 1) := by decide +kernel
theorem dX11_settles_116 : decode cX11_settles 116 = .ok (.aload_n 0, 1) := by decide +kernel
theorem dX11_settles_117 : decode cX11_settles 117 = .ok (.getfield 7, 3) := by decide +kernel
theorem dX11_settles_120 : decode cX11_settles 120 = .ok (.bipush 82, 2) := by decide +kernel
theorem dX11_settles_122 : decode cX11_settles 122 = .ok (.iload_n 1, 1) := by decide +kernel
theorem dX11_settles_123 : decode cX11_settles 123 = .ok (.iadd, 1) := by decide +kernel
theorem dX11_settles_124 : decode cX11_settles 124 = .ok (.iconst 1, 1) := by decide +kernel
theorem dX11_settles_125 : decode cX11_settles 125 = .ok (.iadd, 1) := by decide +kernel
theorem dX11_settles_126 : decode cX11_settles 126 = .ok (.lload_n 2, 1) := by decide +kernel
theorem dX11_settles_127 : decode cX11_settles 127 = .ok (.ldc2_w 29, 3) := by decide +kernel
theorem dX11_settles_130 : decode cX11_settles 130 = .ok (.invokestatic 84, 3) := by decide +kernel
theorem dX11_settles_133 : decode cX11_settles 133 = .ok (.lastore, 1) := by decide +kernel
theorem dX11_settles_134 : decode cX11_settles 134 = .ok (.aload_n 0, 1) := by decide +kernel
theorem dX11_settles_135 : decode cX11_settles 135 = .ok (.getfield 7, 3) := by decide +kernel
theorem dX11_settles_138 : decode cX11_settles 138 = .ok (.bipush 82, 2) := by decide +kernel
theorem dX11_settles_140 : decode cX11_settles 140 = .ok (.iload_n 1, 1) := by decide +kernel
theorem dX11_settles_141 : decode cX11_settles 141 = .ok (.iadd, 1) := by decide +kernel
theorem dX11_settles_142 : decode cX11_settles 142 = .ok (.lload_n 2, 1) := by decide +kernel
theorem dX11_settles_143 : decode cX11_settles 143 = .ok (.aload_n 0, 1) := by decide +kernel
theorem dX11_settles_144 : decode cX11_settles 144 = .ok (.getfield 7, 3) := by decide +kernel
theorem dX11_settles_147 : decode cX11_settles 147 = .ok (.bipush 82, 2) := by decide +kernel
theorem dX11_settles_149 : decode cX11_settles 149 = .ok (.iload_n 1, 1) := by decide +kernel
theorem dX11_settles_150 : decode cX11_settles 150 = .ok (.iadd, 1) := by decide +kernel
theorem dX11_settles_151 : decode cX11_settles 151 = .ok (.iconst 1, 1) := by decide +kernel
theorem dX11_settles_152 : decode cX11_settles 152 = .ok (.iadd, 1) := by decide +kernel
theorem dX11_settles_153 : decode cX11_settles 153 = .ok (.laload, 1) := by decide +kernel
theorem dX11_settles_154 : decode cX11_settles 154 = .ok (.lsub, 1) := by decide +kernel
theorem dX11_settles_155 : decode cX11_settles 155 = .ok (.lastore, 1) := by decide +kernel
theorem dX11_settles_156 : decode cX11_settles 156 = .ok (.iinc 1 (-1), 3) := by decide +kernel
theorem dX11_settles_159 : decode cX11_settles 159 = .ok (.goto (-85), 3) := by decide +kernel
theorem dX11_settles_162 : decode cX11_settles 162 = .ok (.iconst 0, 1) := by decide +kernel
theorem dX11_settles_163 : decode cX11_settles 163 = .ok (.istore_n 1, 1) := by decide +kernel
theorem dX11_settles_164 : decode cX11_settles 164 = .ok (.iload_n 1, 1) := by decide +kernel
theorem dX11_settles_165 : decode cX11_settles 165 = .ok (.iconst 3, 1) := by decide +kernel
theorem dX11_settles_166 : decode cX11_settles 166 = .ok (.if_icmp .ge 80, 3) := by decide +kernel
theorem dX11_settles_169 : decode cX11_settles 169 = .ok (.aload_n 0, 1) := by decide +kernel
theorem dX11_settles_170 : decode cX11_settles 170 = .ok (.iload_n 1, 1) := by decide +kernel
theorem dX11_settles_171 : decode cX11_settles 171 = .ok (.invokevirtual 115, 3) := by decide +kernel
theorem dX11_settles_174 : decode cX11_settles 174 = .ok (.aload_n 0, 1) := by decide +kernel
theorem dX11_settles_175 : decode cX11_settles 175 = .ok (.iload_n 1, 1) := by decide +kernel
theorem dX11_settles_176 : decode cX11_settles 176 = .ok (.iconst 1, 1) := by decide +kernel
theorem dX11_settles_177 : decode cX11_settles 177 = .ok (.iadd, 1) := by decide +kernel
theorem dX11_settles_178 : decode cX11_settles 178 = .ok (.invokevirtual 115, 3) := by decide +kernel
theorem dX11_settles_181 : decode cX11_settles 181 = .ok (.lcmp, 1) := by decide +kernel
theorem dX11_settles_182 : decode cX11_settles 182 = .ok (.ifCond .le 58, 3) := by decide +kernel
theorem dX11_settles_185 : decode cX11_settles 185 = .ok (.aload_n 0, 1) := by decide +kernel
theorem dX11_settles_186 : decode cX11_settles 186 = .ok (.iload_n 1, 1) := by decide +kernel
theorem dX11_settles_187 : decode cX11_settles 187 = .ok (.invokevirtual 115, 3) := by decide +kernel
theorem dX11_settles_190 : decode cX11_settles 190 = .ok (.aload_n 0, 1) := by decide +kernel
theorem dX11_settles_191 : decode cX11_settles 191 = .ok (.iload_n 1, 1) := by decide +kernel
theorem dX11_settles_192 : decode cX11_settles 192 = .ok (.iconst 1, 1) := by decide +kernel
theorem dX11_settles_193 : decode cX11_settles 193 = .ok (.iadd, 1) := by decide +kernel
theorem dX11_settles_194 : decode cX11_settles 194 = .ok (.invokevirtual 115, 3) := by decide +kernel
theorem dX11_settles_197 : decode cX11_settles 197 = .ok (.lsub, 1) := by decide +kernel
theorem dX11_settles_198 : decode cX11_settles 198 = .ok (.aload_n 0, 1) := by decide +kernel
theorem dX11_settles_199 : decode cX11_settles 199 = .ok (.bipush 14, 2) := by decide +kernel
theorem dX11_settles_201 : decode cX11_settles 201 = .ok (.invokevirtual 72, 3) := by decide +kernel
theorem dX11_settles_204 : decode cX11_settles 204 = .ok (.lmul, 1) := by decide +kernel
theorem dX11_settles_205 : decode cX11_settles 205 = .ok (.ldc2_w 23, 3) := by decide +kernel
theorem dX11_settles_208 : decode cX11_settles 208 = .ok (.invokestatic 84, 3) := by decide +kernel
theorem dX11_settles_211 : decode cX11_settles 211 = .ok (.lstore_n 2, 1) := by decide +kernel
theorem dX11_settles_212 : decode cX11_settles 212 = .ok (.aload_n 0, 1) := by decide +kernel
theorem dX11_settles_213 : decode cX11_settles 213 = .ok (.getfield 7, 3) := by decide +kernel
theorem dX11_settles_216 : decode cX11_settles 216 = .ok (.bipush 82, 2) := by decide +kernel
theorem dX11_settles_218 : decode cX11_settles 218 = .ok (.iload_n 1, 1) := by decide +kernel
theorem dX11_settles_219 : decode cX11_settles 219 = .ok (.iadd, 1) := by decide +kernel
theorem dX11_settles_220 : decode cX11_settles 220 = .ok (.dup2, 1) := by decide +kernel
theorem dX11_settles_221 : decode cX11_settles 221 = .ok (.laload, 1) := by decide +kernel
theorem dX11_settles_222 : decode cX11_settles 222 = .ok (.lload_n 2, 1) := by decide +kernel
theorem dX11_settles_223 : decode cX11_settles 223 = .ok (.lsub, 1) := by decide +kernel
theorem dX11_settles_224 : decode cX11_settles 224 = .ok (.lastore, 1) := by decide +kernel
theorem dX11_settles_225 : decode cX11_settles 225 = .ok (.aload_n 0, 1) := by decide +kernel
theorem dX11_settles_226 : decode cX11_settles 226 = .ok (.getfield 7, 3) := by decide +kernel
theorem dX11_settles_229 : decode cX11_settles 229 = .ok (.bipush 82, 2) := by decide +kernel
theorem dX11_settles_231 : decode cX11_settles 231 = .ok (.iload_n 1, 1) := by decide +kernel
theorem dX11_settles_232 : decode cX11_settles 232 = .ok (.iadd, 1) := by decide +kernel
theorem dX11_settles_233 : decode cX11_settles 233 = .ok (.iconst 1, 1) := by decide +kernel
theorem dX11_settles_234 : decode cX11_settles 234 = .ok (.iadd, 1) := by decide +kernel
theorem dX11_settles_235 : decode cX11_settles 235 = .ok (.dup2, 1) := by decide +kernel
theorem dX11_settles_236 : decode cX11_settles 236 = .ok (.laload, 1) := by decide +kernel
theorem dX11_settles_237 : decode cX11_settles 237 = .ok (.lload_n 2, 1) := by decide +kernel
theorem dX11_settles_238 : decode cX11_settles 238 = .ok (.ladd, 1) := by decide +kernel
theorem dX11_settles_239 : decode cX11_settles 239 = .ok (.lastore, 1) := by decide +kernel
theorem dX11_settles_240 : decode cX11_settles 240 = .ok (.iinc 1 1, 3) := by decide +kernel
theorem dX11_settles_243 : decode cX11_settles 243 = .ok (.goto (-79), 3) := by decide +kernel
theorem dX11_settles_246 : decode cX11_settles 246 = .ok (.return_, 1) := by decide +kernel
set_option maxRecDepth 20000 in
theorem ggX11_minute_X11_demandOf : GoodIn wsX11_minute wsX11_demandOf := goodIn_r _ [9, 1, 10, 11, 12, 13, 8, 14, 15, 16, 17, 66, 67, 68, 69, 70, 71, 72, 73, 74, 75] (by decide +kernel) (by decide +kernel)
set_option maxRecDepth 20000 in
theorem gX11_minute_X11_demandOf : GoodIn wsX11_minute (wsV RX11 88 RX11 yX11_demandOf wsX11_demandOf) := goodIn_app (goodIn_of _ (by decide +kernel)) ggX11_minute_X11_demandOf
set_option maxRecDepth 20000 in
theorem ggX11_minute_X11_targetOf : GoodIn wsX11_minute wsX11_targetOf := goodIn_r _ [21, 1, 22, 23, 24, 8, 25, 15, 16, 17, 11, 12, 13, 14, 66, 67, 68, 69, 70, 71, 72, 73, 74, 75] (by decide +kernel) (by decide +kernel)
set_option maxRecDepth 20000 in
theorem gX11_minute_X11_targetOf : GoodIn wsX11_minute (wsV RX11 104 RX11 yX11_targetOf wsX11_targetOf) := goodIn_app (goodIn_of _ (by decide +kernel)) ggX11_minute_X11_targetOf
set_option maxRecDepth 20000 in
theorem ggX11_minute_X11_set1 : GoodIn wsX11_minute wsX11_set1 := goodIn_r _ [14, 1, 66, 67, 68, 69, 70, 71, 72, 73, 74, 75] (by decide +kernel) (by decide +kernel)
set_option maxRecDepth 20000 in
theorem gX11_minute_X11_set1 : GoodIn wsX11_minute (wsV RX11 72 RX11 yX11_set1 wsX11_set1) := goodIn_app (goodIn_of _ (by decide +kernel)) ggX11_minute_X11_set1
set_option maxRecDepth 20000 in
theorem ggX11_minute_X11_ruleOn : GoodIn wsX11_minute wsX11_ruleOn := goodIn_r _ [29, 1, 30, 31, 32, 8, 33, 15, 16, 17, 11, 12, 13, 14, 66, 67, 68, 69, 70, 71, 72, 73, 74, 75] (by decide +kernel) (by decide +kernel)
set_option maxRecDepth 20000 in
theorem gX11_minute_X11_ruleOn : GoodIn wsX11_minute (wsV RX11 135 RX11 yX11_ruleOn wsX11_ruleOn) := goodIn_app (goodIn_of _ (by decide +kernel)) ggX11_minute_X11_ruleOn
set_option maxRecDepth 20000 in
theorem ggX11_minute_X11_ruleOff : GoodIn wsX11_minute wsX11_ruleOff := goodIn_r _ [37, 1, 4, 30, 31, 32, 8, 33, 15, 16, 17, 11, 12, 13, 14, 38, 39, 40, 41, 66, 67, 68, 69, 70, 71, 72, 73, 74, 75] (by decide +kernel) (by decide +kernel)
set_option maxRecDepth 20000 in
theorem gX11_minute_X11_ruleOff : GoodIn wsX11_minute (wsV RX11 139 RX11 yX11_ruleOff wsX11_ruleOff) := goodIn_app (goodIn_of _ (by decide +kernel)) ggX11_minute_X11_ruleOff
set_option maxRecDepth 20000 in
theorem ggX11_minute_X11_decides : GoodIn wsX11_minute wsX11_decides := goodIn_r _ [45, 1, 2, 4, 66, 67, 68, 69, 70, 71, 72, 73, 74, 75] (by decide +kernel) (by decide +kernel)
set_option maxRecDepth 20000 in
theorem gX11_minute_X11_decides : GoodIn wsX11_minute (wsV RX11 143 RX11 yX11_decides wsX11_decides) := goodIn_app (goodIn_of _ (by decide +kernel)) ggX11_minute_X11_decides
set_option maxRecDepth 20000 in
theorem ggX11_minute_X11_produces : GoodIn wsX11_minute wsX11_produces := goodIn_r _ [49, 1, 10, 50, 51, 52, 53, 54, 55, 56, 4, 57, 11, 12, 13, 8, 14, 15, 16, 17, 30, 31, 32, 33, 66, 67, 68, 69, 70, 71, 72, 73, 74, 75] (by decide +kernel) (by decide +kernel)
set_option maxRecDepth 20000 in
theorem gX11_minute_X11_produces : GoodIn wsX11_minute (wsV RX11 147 RX11 yX11_produces wsX11_produces) := goodIn_app (goodIn_of _ (by decide +kernel)) ggX11_minute_X11_produces
set_option maxRecDepth 20000 in
theorem ggX11_minute_X11_draws : GoodIn wsX11_minute wsX11_draws := goodIn_r _ [61, 1, 57, 66, 67, 68, 69, 70, 71, 72, 73, 74, 75] (by decide +kernel) (by decide +kernel)
set_option maxRecDepth 20000 in
theorem gX11_minute_X11_draws : GoodIn wsX11_minute (wsV RX11 151 RX11 yX11_draws wsX11_draws) := goodIn_app (goodIn_of _ (by decide +kernel)) ggX11_minute_X11_draws
set_option maxRecDepth 20000 in
theorem ggX11_minute_X11_settles : GoodIn wsX11_minute wsX11_settles := goodIn_r _ [65, 57, 10, 1, 4, 30, 31, 32, 8, 33, 15, 16, 17, 11, 12, 13, 14, 66, 67, 68, 69, 70, 71, 72, 73, 74, 75] (by decide +kernel) (by decide +kernel)
set_option maxRecDepth 20000 in
theorem gX11_minute_X11_settles : GoodIn wsX11_minute (wsV RX11 155 RX11 yX11_settles wsX11_settles) := goodIn_app (goodIn_of _ (by decide +kernel)) ggX11_minute_X11_settles
theorem dX11_minute_0 : decode cX11_minute 0 = .ok (.aload_n 0, 1) := by decide +kernel
theorem dX11_minute_1 : decode cX11_minute 1 = .ok (.getfield 7, 3) := by decide +kernel
theorem dX11_minute_4 : decode cX11_minute 4 = .ok (.bipush 91, 2) := by decide +kernel
theorem dX11_minute_6 : decode cX11_minute 6 = .ok (.laload, 1) := by decide +kernel
theorem dX11_minute_7 : decode cX11_minute 7 = .ok (.ldc2_w 121, 3) := by decide +kernel
theorem dX11_minute_10 : decode cX11_minute 10 = .ok (.ldiv, 1) := by decide +kernel
theorem dX11_minute_11 : decode cX11_minute 11 = .ok (.ldc2_w 133, 3) := by decide +kernel
theorem dX11_minute_14 : decode cX11_minute 14 = .ok (.lrem, 1) := by decide +kernel
theorem dX11_minute_15 : decode cX11_minute 15 = .ok (.l2i, 1) := by decide +kernel
theorem dX11_minute_16 : decode cX11_minute 16 = .ok (.istore_n 1, 1) := by decide +kernel
theorem dX11_minute_17 : decode cX11_minute 17 = .ok (.aload_n 0, 1) := by decide +kernel
theorem dX11_minute_18 : decode cX11_minute 18 = .ok (.getfield 7, 3) := by decide +kernel
theorem dX11_minute_21 : decode cX11_minute 21 = .ok (.bipush 17, 2) := by decide +kernel
theorem dX11_minute_23 : decode cX11_minute 23 = .ok (.iload_n 1, 1) := by decide +kernel
theorem dX11_minute_24 : decode cX11_minute 24 = .ok (.iadd, 1) := by decide +kernel
theorem dX11_minute_25 : decode cX11_minute 25 = .ok (.laload, 1) := by decide +kernel
theorem dX11_minute_26 : decode cX11_minute 26 = .ok (.lstore_n 2, 1) := by decide +kernel
theorem dX11_minute_27 : decode cX11_minute 27 = .ok (.aload_n 0, 1) := by decide +kernel
theorem dX11_minute_28 : decode cX11_minute 28 = .ok (.getfield 7, 3) := by decide +kernel
theorem dX11_minute_31 : decode cX11_minute 31 = .ok (.bipush 41, 2) := by decide +kernel
theorem dX11_minute_33 : decode cX11_minute 33 = .ok (.iload_n 1, 1) := by decide +kernel
theorem dX11_minute_34 : decode cX11_minute 34 = .ok (.iadd, 1) := by decide +kernel
theorem dX11_minute_35 : decode cX11_minute 35 = .ok (.laload, 1) := by decide +kernel
theorem dX11_minute_36 : decode cX11_minute 36 = .ok (.lstore 4, 2) := by decide +kernel
theorem dX11_minute_38 : decode cX11_minute 38 = .ok (.aload_n 0, 1) := by decide +kernel
theorem dX11_minute_39 : decode cX11_minute 39 = .ok (.iload_n 1, 1) := by decide +kernel
theorem dX11_minute_40 : decode cX11_minute 40 = .ok (.invokevirtual 88, 3) := by decide +kernel
theorem dX11_minute_43 : decode cX11_minute 43 = .ok (.lstore 6, 2) := by decide +kernel
theorem dX11_minute_45 : decode cX11_minute 45 = .ok (.aload_n 0, 1) := by decide +kernel
theorem dX11_minute_46 : decode cX11_minute 46 = .ok (.iload_n 1, 1) := by decide +kernel
theorem dX11_minute_47 : decode cX11_minute 47 = .ok (.invokevirtual 104, 3) := by decide +kernel
theorem dX11_minute_50 : decode cX11_minute 50 = .ok (.lstore 8, 2) := by decide +kernel
theorem dX11_minute_52 : decode cX11_minute 52 = .ok (.aload_n 0, 1) := by decide +kernel
theorem dX11_minute_53 : decode cX11_minute 53 = .ok (.getfield 7, 3) := by decide +kernel
theorem dX11_minute_56 : decode cX11_minute 56 = .ok (.bipush 86, 2) := by decide +kernel
theorem dX11_minute_58 : decode cX11_minute 58 = .ok (.laload, 1) := by decide +kernel
theorem dX11_minute_59 : decode cX11_minute 59 = .ok (.ldc2_w 29, 3) := by decide +kernel
theorem dX11_minute_62 : decode cX11_minute 62 = .ok (.lcmp, 1) := by decide +kernel
theorem dX11_minute_63 : decode cX11_minute 63 = .ok (.ifCond .ne 44, 3) := by decide +kernel
theorem dX11_minute_66 : decode cX11_minute 66 = .ok (.aload_n 0, 1) := by decide +kernel
theorem dX11_minute_67 : decode cX11_minute 67 = .ok (.getfield 7, 3) := by decide +kernel
theorem dX11_minute_70 : decode cX11_minute 70 = .ok (.bipush 91, 2) := by decide +kernel
theorem dX11_minute_72 : decode cX11_minute 72 = .ok (.laload, 1) := by decide +kernel
theorem dX11_minute_73 : decode cX11_minute 73 = .ok (.aload_n 0, 1) := by decide +kernel
theorem dX11_minute_74 : decode cX11_minute 74 = .ok (.getfield 7, 3) := by decide +kernel
theorem dX11_minute_77 : decode cX11_minute 77 = .ok (.bipush 90, 2) := by decide +kernel
theorem dX11_minute_79 : decode cX11_minute 79 = .ok (.laload, 1) := by decide +kernel
theorem dX11_minute_80 : decode cX11_minute 80 = .ok (.lsub, 1) := by decide +kernel
theorem dX11_minute_81 : decode cX11_minute 81 = .ok (.aload_n 0, 1) := by decide +kernel
theorem dX11_minute_82 : decode cX11_minute 82 = .ok (.bipush 11, 2) := by decide +kernel
theorem dX11_minute_84 : decode cX11_minute 84 = .ok (.invokevirtual 72, 3) := by decide +kernel
theorem dX11_minute_87 : decode cX11_minute 87 = .ok (.lcmp, 1) := by decide +kernel
theorem dX11_minute_88 : decode cX11_minute 88 = .ok (.ifCond .lt 19, 3) := by decide +kernel
theorem dX11_minute_91 : decode cX11_minute 91 = .ok (.aload_n 0, 1) := by decide +kernel
theorem dX11_minute_92 : decode cX11_minute 92 = .ok (.getfield 7, 3) := by decide +kernel
theorem dX11_minute_95 : decode cX11_minute 95 = .ok (.bipush 86, 2) := by decide +kernel
theorem dX11_minute_97 : decode cX11_minute 97 = .ok (.lconst 1, 1) := by decide +kernel
theorem dX11_minute_98 : decode cX11_minute 98 = .ok (.lastore, 1) := by decide +kernel
theorem dX11_minute_99 : decode cX11_minute 99 = .ok (.aload_n 0, 1) := by decide +kernel
theorem dX11_minute_100 : decode cX11_minute 100 = .ok (.getfield 7, 3) := by decide +kernel
theorem dX11_minute_103 : decode cX11_minute 103 = .ok (.bipush 89, 2) := by decide +kernel
theorem dX11_minute_105 : decode cX11_minute 105 = .ok (.lconst 0, 1) := by decide +kernel
theorem dX11_minute_106 : decode cX11_minute 106 = .ok (.lastore, 1) := by decide +kernel
theorem dX11_minute_107 : decode cX11_minute 107 = .ok (.aload_n 0, 1) := by decide +kernel
theorem dX11_minute_108 : decode cX11_minute 108 = .ok (.aload_n 0, 1) := by decide +kernel
theorem dX11_minute_109 : decode cX11_minute 109 = .ok (.getfield 7, 3) := by decide +kernel
theorem dX11_minute_112 : decode cX11_minute 112 = .ok (.bipush 86, 2) := by decide +kernel
theorem dX11_minute_114 : decode cX11_minute 114 = .ok (.laload, 1) := by decide +kernel
theorem dX11_minute_115 : decode cX11_minute 115 = .ok (.ldc2_w 29, 3) := by decide +kernel
theorem dX11_minute_118 : decode cX11_minute 118 = .ok (.lcmp, 1) := by decide +kernel
theorem dX11_minute_119 : decode cX11_minute 119 = .ok (.ifCond .ne 7, 3) := by decide +kernel
theorem dX11_minute_122 : decode cX11_minute 122 = .ok (.iconst 0, 1) := by decide +kernel
theorem dX11_minute_123 : decode cX11_minute 123 = .ok (.goto 32, 3) := by decide +kernel
theorem dX11_minute_126 : decode cX11_minute 126 = .ok (.aload_n 0, 1) := by decide +kernel
theorem dX11_minute_127 : decode cX11_minute 127 = .ok (.getfield 7, 3) := by decide +kernel
theorem dX11_minute_130 : decode cX11_minute 130 = .ok (.bipush 86, 2) := by decide +kernel
theorem dX11_minute_132 : decode cX11_minute 132 = .ok (.laload, 1) := by decide +kernel
theorem dX11_minute_133 : decode cX11_minute 133 = .ok (.lconst 1, 1) := by decide +kernel
theorem dX11_minute_134 : decode cX11_minute 134 = .ok (.lcmp, 1) := by decide +kernel
theorem dX11_minute_135 : decode cX11_minute 135 = .ok (.ifCond .ne 12, 3) := by decide +kernel
theorem dX11_minute_138 : decode cX11_minute 138 = .ok (.aload_n 0, 1) := by decide +kernel
theorem dX11_minute_139 : decode cX11_minute 139 = .ok (.lload 8, 2) := by decide +kernel
theorem dX11_minute_141 : decode cX11_minute 141 = .ok (.invokevirtual 135, 3) := by decide +kernel
theorem dX11_minute_144 : decode cX11_minute 144 = .ok (.goto 11, 3) := by decide +kernel
theorem dX11_minute_147 : decode cX11_minute 147 = .ok (.aload_n 0, 1) := by decide +kernel
theorem dX11_minute_148 : decode cX11_minute 148 = .ok (.lload 8, 2) := by decide +kernel
theorem dX11_minute_150 : decode cX11_minute 150 = .ok (.lload 4, 2) := by decide +kernel
theorem dX11_minute_152 : decode cX11_minute 152 = .ok (.invokevirtual 139, 3) := by decide +kernel
theorem dX11_minute_155 : decode cX11_minute 155 = .ok (.invokevirtual 143, 3) := by decide +kernel
theorem dX11_minute_158 : decode cX11_minute 158 = .ok (.aload_n 0, 1) := by decide +kernel
theorem dX11_minute_159 : decode cX11_minute 159 = .ok (.lload_n 2, 1) := by decide +kernel
theorem dX11_minute_160 : decode cX11_minute 160 = .ok (.lload 4, 2) := by decide +kernel
theorem dX11_minute_162 : decode cX11_minute 162 = .ok (.invokevirtual 147, 3) := by decide +kernel
theorem dX11_minute_165 : decode cX11_minute 165 = .ok (.aload_n 0, 1) := by decide +kernel
theorem dX11_minute_166 : decode cX11_minute 166 = .ok (.lload 6, 2) := by decide +kernel
theorem dX11_minute_168 : decode cX11_minute 168 = .ok (.invokevirtual 151, 3) := by decide +kernel
theorem dX11_minute_171 : decode cX11_minute 171 = .ok (.aload_n 0, 1) := by decide +kernel
theorem dX11_minute_172 : decode cX11_minute 172 = .ok (.invokevirtual 155, 3) := by decide +kernel
theorem dX11_minute_175 : decode cX11_minute 175 = .ok (.aload_n 0, 1) := by decide +kernel
theorem dX11_minute_176 : decode cX11_minute 176 = .ok (.getfield 7, 3) := by decide +kernel
theorem dX11_minute_179 : decode cX11_minute 179 = .ok (.aload_n 0, 1) := by decide +kernel
theorem dX11_minute_180 : decode cX11_minute 180 = .ok (.getfield 7, 3) := by decide +kernel
theorem dX11_minute_183 : decode cX11_minute 183 = .ok (.bipush 86, 2) := by decide +kernel
theorem dX11_minute_185 : decode cX11_minute 185 = .ok (.laload, 1) := by decide +kernel
theorem dX11_minute_186 : decode cX11_minute 186 = .ok (.lconst 0, 1) := by decide +kernel
theorem dX11_minute_187 : decode cX11_minute 187 = .ok (.lcmp, 1) := by decide +kernel
theorem dX11_minute_188 : decode cX11_minute 188 = .ok (.ifCond .ne 8, 3) := by decide +kernel
theorem dX11_minute_191 : decode cX11_minute 191 = .ok (.bipush 88, 2) := by decide +kernel
theorem dX11_minute_193 : decode cX11_minute 193 = .ok (.goto 5, 3) := by decide +kernel
theorem dX11_minute_196 : decode cX11_minute 196 = .ok (.bipush 87, 2) := by decide +kernel
theorem dX11_minute_198 : decode cX11_minute 198 = .ok (.dup2, 1) := by decide +kernel
theorem dX11_minute_199 : decode cX11_minute 199 = .ok (.laload, 1) := by decide +kernel
theorem dX11_minute_200 : decode cX11_minute 200 = .ok (.lconst 1, 1) := by decide +kernel
theorem dX11_minute_201 : decode cX11_minute 201 = .ok (.ladd, 1) := by decide +kernel
theorem dX11_minute_202 : decode cX11_minute 202 = .ok (.lastore, 1) := by decide +kernel
theorem dX11_minute_203 : decode cX11_minute 203 = .ok (.aload_n 0, 1) := by decide +kernel
theorem dX11_minute_204 : decode cX11_minute 204 = .ok (.getfield 7, 3) := by decide +kernel
theorem dX11_minute_207 : decode cX11_minute 207 = .ok (.bipush 91, 2) := by decide +kernel
theorem dX11_minute_209 : decode cX11_minute 209 = .ok (.dup2, 1) := by decide +kernel
theorem dX11_minute_210 : decode cX11_minute 210 = .ok (.laload, 1) := by decide +kernel
theorem dX11_minute_211 : decode cX11_minute 211 = .ok (.lconst 1, 1) := by decide +kernel
theorem dX11_minute_212 : decode cX11_minute 212 = .ok (.ladd, 1) := by decide +kernel
theorem dX11_minute_213 : decode cX11_minute 213 = .ok (.lastore, 1) := by decide +kernel
theorem dX11_minute_214 : decode cX11_minute 214 = .ok (.return_, 1) := by decide +kernel
set_option maxRecDepth 20000 in
theorem ggX11_minutes_X11_minute : GoodIn wsX11_minutes wsX11_minute := goodIn_r _ [5, 6, 7, 8, 9, 10, 11, 12, 4, 13, 14, 15, 16, 17, 18, 19, 20, 21, 22, 23, 24, 25, 26, 27, 28, 29, 30, 31, 32, 33, 34, 35, 36, 37, 38, 39, 40, 41, 42, 43, 44, 45, 46, 47, 48, 49, 50, 51, 52, 53, 54, 55, 56, 57, 58, 59, 60, 61, 62, 63, 64, 65, 66, 67, 68, 69, 70, 71, 72, 73, 74, 75, 76, 77, 78, 79] (by decide +kernel) (by decide +kernel)
set_option maxRecDepth 20000 in
theorem gX11_minutes_X11_minute : GoodIn wsX11_minutes (wsV RX11 158 RX11 yX11_minute wsX11_minute) := goodIn_app (goodIn_of _ (by decide +kernel)) ggX11_minutes_X11_minute
theorem dX11_minutes_0 : decode cX11_minutes 0 = .ok (.iconst 0, 1) := by decide +kernel
theorem dX11_minutes_1 : decode cX11_minutes 1 = .ok (.istore_n 2, 1) := by decide +kernel
theorem dX11_minutes_2 : decode cX11_minutes 2 = .ok (.iload_n 2, 1) := by decide +kernel
theorem dX11_minutes_3 : decode cX11_minutes 3 = .ok (.iload_n 1, 1) := by decide +kernel
theorem dX11_minutes_4 : decode cX11_minutes 4 = .ok (.if_icmp .ge 13, 3) := by decide +kernel
theorem dX11_minutes_7 : decode cX11_minutes 7 = .ok (.aload_n 0, 1) := by decide +kernel
theorem dX11_minutes_8 : decode cX11_minutes 8 = .ok (.invokevirtual 158, 3) := by decide +kernel
theorem dX11_minutes_11 : decode cX11_minutes 11 = .ok (.iinc 2 1, 3) := by decide +kernel
theorem dX11_minutes_14 : decode cX11_minutes 14 = .ok (.goto (-12), 3) := by decide +kernel
theorem dX11_minutes_17 : decode cX11_minutes 17 = .ok (.return_, 1) := by decide +kernel
set_option maxRecDepth 20000 in
theorem ggX11_run_X11_in : GoodIn wsX11_run wsX11_in := goodIn_r _ [7] (by decide +kernel) (by decide +kernel)
set_option maxRecDepth 20000 in
theorem gX11_run_X11_in : GoodIn wsX11_run (va_wsS RX11 56 yX11_in wsX11_in) := goodIn_app (goodIn_of _ (by decide +kernel)) ggX11_run_X11_in
set_option maxRecDepth 20000 in
theorem ggX11_run_X11_records : GoodIn wsX11_run wsX11_records := goodIn_r _ [11, 12, 13, 14, 15, 6, 16, 2, 88, 89, 90, 91, 92, 93, 94, 95, 96, 97] (by decide +kernel) (by decide +kernel)
set_option maxRecDepth 20000 in
theorem gX11_run_X11_records : GoodIn wsX11_run (wsV RX11 68 RX11 yX11_records wsX11_records) := goodIn_app (goodIn_of _ (by decide +kernel)) ggX11_run_X11_records
set_option maxRecDepth 20000 in
theorem ggX11_run_X11_minutes : GoodIn wsX11_run wsX11_minutes := goodIn_r _ [20, 21, 22, 23, 6, 24, 2, 25, 26, 27, 28, 29, 30, 31, 32, 33, 34, 35, 36, 37, 38, 39, 40, 41, 42, 43, 44, 45, 46, 47, 48, 49, 50, 51, 52, 53, 54, 55, 56, 57, 58, 59, 60, 61, 62, 63, 64, 65, 66, 67, 68, 69, 70, 71, 72, 73, 74, 75, 76, 77, 78, 79, 80, 81, 82, 83, 84, 85, 86, 87, 88, 89, 90, 91, 92, 93, 94, 95, 96, 97] (by decide +kernel) (by decide +kernel)
set_option maxRecDepth 20000 in
theorem gX11_run_X11_minutes : GoodIn wsX11_run (wsV RX11 165 RX11 yX11_minutes wsX11_minutes) := goodIn_app (goodIn_of _ (by decide +kernel)) ggX11_run_X11_minutes
theorem dX11_run_0 : decode cX11_run 0 = .ok (.iload_n 1, 1) := by decide +kernel
theorem dX11_run_1 : decode cX11_run 1 = .ok (.i2l, 1) := by decide +kernel
theorem dX11_run_2 : decode cX11_run 2 = .ok (.lconst 1, 1) := by decide +kernel
theorem dX11_run_3 : decode cX11_run 3 = .ok (.ldc2_w 161, 3) := by decide +kernel
theorem dX11_run_6 : decode cX11_run 6 = .ok (.invokestatic 56, 3) := by decide +kernel
theorem dX11_run_9 : decode cX11_run 9 = .ok (.ifCond .ne 5, 3) := by decide +kernel
theorem dX11_run_12 : decode cX11_run 12 = .ok (.iconst (-1), 1) := by decide +kernel
theorem dX11_run_13 : decode cX11_run 13 = .ok (.ireturn, 1) := by decide +kernel
theorem dX11_run_14 : decode cX11_run 14 = .ok (.aload_n 0, 1) := by decide +kernel
theorem dX11_run_15 : decode cX11_run 15 = .ok (.getfield 7, 3) := by decide +kernel
theorem dX11_run_18 : decode cX11_run 18 = .ok (.bipush 91, 2) := by decide +kernel
theorem dX11_run_20 : decode cX11_run 20 = .ok (.laload, 1) := by decide +kernel
theorem dX11_run_21 : decode cX11_run 21 = .ok (.iload_n 1, 1) := by decide +kernel
theorem dX11_run_22 : decode cX11_run 22 = .ok (.i2l, 1) := by decide +kernel
theorem dX11_run_23 : decode cX11_run 23 = .ok (.ladd, 1) := by decide +kernel
theorem dX11_run_24 : decode cX11_run 24 = .ok (.ldc2_w 163, 3) := by decide +kernel
theorem dX11_run_27 : decode cX11_run 27 = .ok (.lcmp, 1) := by decide +kernel
theorem dX11_run_28 : decode cX11_run 28 = .ok (.ifCond .le 6, 3) := by decide +kernel
theorem dX11_run_31 : decode cX11_run 31 = .ok (.bipush (-3), 2) := by decide +kernel
theorem dX11_run_33 : decode cX11_run 33 = .ok (.ireturn, 1) := by decide +kernel
theorem dX11_run_34 : decode cX11_run 34 = .ok (.aload_n 0, 1) := by decide +kernel
theorem dX11_run_35 : decode cX11_run 35 = .ok (.invokevirtual 68, 3) := by decide +kernel
theorem dX11_run_38 : decode cX11_run 38 = .ok (.pop, 1) := by decide +kernel
theorem dX11_run_39 : decode cX11_run 39 = .ok (.aload_n 0, 1) := by decide +kernel
theorem dX11_run_40 : decode cX11_run 40 = .ok (.getfield 7, 3) := by decide +kernel
theorem dX11_run_43 : decode cX11_run 43 = .ok (.bipush 105, 2) := by decide +kernel
theorem dX11_run_45 : decode cX11_run 45 = .ok (.laload, 1) := by decide +kernel
theorem dX11_run_46 : decode cX11_run 46 = .ok (.lstore_n 2, 1) := by decide +kernel
theorem dX11_run_47 : decode cX11_run 47 = .ok (.aload_n 0, 1) := by decide +kernel
theorem dX11_run_48 : decode cX11_run 48 = .ok (.iload_n 1, 1) := by decide +kernel
theorem dX11_run_49 : decode cX11_run 49 = .ok (.invokevirtual 165, 3) := by decide +kernel
theorem dX11_run_52 : decode cX11_run 52 = .ok (.aload_n 0, 1) := by decide +kernel
theorem dX11_run_53 : decode cX11_run 53 = .ok (.getfield 7, 3) := by decide +kernel
theorem dX11_run_56 : decode cX11_run 56 = .ok (.bipush 105, 2) := by decide +kernel
theorem dX11_run_58 : decode cX11_run 58 = .ok (.laload, 1) := by decide +kernel
theorem dX11_run_59 : decode cX11_run 59 = .ok (.lload_n 2, 1) := by decide +kernel
theorem dX11_run_60 : decode cX11_run 60 = .ok (.lsub, 1) := by decide +kernel
theorem dX11_run_61 : decode cX11_run 61 = .ok (.l2i, 1) := by decide +kernel
theorem dX11_run_62 : decode cX11_run 62 = .ok (.ireturn, 1) := by decide +kernel
theorem dX11_time_0 : decode cX11_time 0 = .ok (.aload_n 0, 1) := by decide +kernel
theorem dX11_time_1 : decode cX11_time 1 = .ok (.getfield 7, 3) := by decide +kernel
theorem dX11_time_4 : decode cX11_time 4 = .ok (.bipush 91, 2) := by decide +kernel
theorem dX11_time_6 : decode cX11_time 6 = .ok (.laload, 1) := by decide +kernel
theorem dX11_time_7 : decode cX11_time 7 = .ok (.l2i, 1) := by decide +kernel
theorem dX11_time_8 : decode cX11_time 8 = .ok (.ireturn, 1) := by decide +kernel
theorem dX11_pump_0 : decode cX11_pump 0 = .ok (.aload_n 0, 1) := by decide +kernel
theorem dX11_pump_1 : decode cX11_pump 1 = .ok (.getfield 7, 3) := by decide +kernel
theorem dX11_pump_4 : decode cX11_pump 4 = .ok (.bipush 86, 2) := by decide +kernel
theorem dX11_pump_6 : decode cX11_pump 6 = .ok (.laload, 1) := by decide +kernel
theorem dX11_pump_7 : decode cX11_pump 7 = .ok (.l2i, 1) := by decide +kernel
theorem dX11_pump_8 : decode cX11_pump 8 = .ok (.ireturn, 1) := by decide +kernel
theorem dX11_reason_0 : decode cX11_reason 0 = .ok (.aload_n 0, 1) := by decide +kernel
theorem dX11_reason_1 : decode cX11_reason 1 = .ok (.getfield 7, 3) := by decide +kernel
theorem dX11_reason_4 : decode cX11_reason 4 = .ok (.bipush 92, 2) := by decide +kernel
theorem dX11_reason_6 : decode cX11_reason 6 = .ok (.laload, 1) := by decide +kernel
theorem dX11_reason_7 : decode cX11_reason 7 = .ok (.l2i, 1) := by decide +kernel
theorem dX11_reason_8 : decode cX11_reason 8 = .ok (.ireturn, 1) := by decide +kernel
set_option maxRecDepth 20000 in
theorem ggX11_minutesWith_X11_in : GoodIn wsX11_minutesWith wsX11_in := goodIn_r _ [6] (by decide +kernel) (by decide +kernel)
set_option maxRecDepth 20000 in
theorem gX11_minutesWith_X11_in : GoodIn wsX11_minutesWith (va_wsS RX11 56 yX11_in wsX11_in) := goodIn_app (goodIn_of _ (by decide +kernel)) ggX11_minutesWith_X11_in
theorem dX11_minutesWith_0 : decode cX11_minutesWith 0 = .ok (.iload_n 1, 1) := by decide +kernel
theorem dX11_minutesWith_1 : decode cX11_minutesWith 1 = .ok (.i2l, 1) := by decide +kernel
theorem dX11_minutesWith_2 : decode cX11_minutesWith 2 = .ok (.lconst 0, 1) := by decide +kernel
theorem dX11_minutesWith_3 : decode cX11_minutesWith 3 = .ok (.ldc2_w 168, 3) := by decide +kernel
theorem dX11_minutesWith_6 : decode cX11_minutesWith 6 = .ok (.invokestatic 56, 3) := by decide +kernel
theorem dX11_minutesWith_9 : decode cX11_minutesWith 9 = .ok (.ifCond .eq 16, 3) := by decide +kernel
theorem dX11_minutesWith_12 : decode cX11_minutesWith 12 = .ok (.aload_n 0, 1) := by decide +kernel
theorem dX11_minutesWith_13 : decode cX11_minutesWith 13 = .ok (.getfield 7, 3) := by decide +kernel
theorem dX11_minutesWith_16 : decode cX11_minutesWith 16 = .ok (.bipush 93, 2) := by decide +kernel
theorem dX11_minutesWith_18 : decode cX11_minutesWith 18 = .ok (.iload_n 1, 1) := by decide +kernel
theorem dX11_minutesWith_19 : decode cX11_minutesWith 19 = .ok (.iadd, 1) := by decide +kernel
theorem dX11_minutesWith_20 : decode cX11_minutesWith 20 = .ok (.laload, 1) := by decide +kernel
theorem dX11_minutesWith_21 : decode cX11_minutesWith 21 = .ok (.l2i, 1) := by decide +kernel
theorem dX11_minutesWith_22 : decode cX11_minutesWith 22 = .ok (.goto 4, 3) := by decide +kernel
theorem dX11_minutesWith_25 : decode cX11_minutesWith 25 = .ok (.iconst (-1), 1) := by decide +kernel
theorem dX11_minutesWith_26 : decode cX11_minutesWith 26 = .ok (.ireturn, 1) := by decide +kernel
set_option maxRecDepth 20000 in
theorem ggX11_startsLastHour_X11_startsLately : GoodIn wsX11_startsLastHour wsX11_startsLately := goodIn_r _ [5, 6, 7, 8, 9, 10, 11, 12, 13, 14, 15, 16] (by decide +kernel) (by decide +kernel)
set_option maxRecDepth 20000 in
theorem gX11_startsLastHour_X11_startsLately : GoodIn wsX11_startsLastHour (wsV RX11 118 RX11 yX11_startsLately wsX11_startsLately) := goodIn_app (goodIn_of _ (by decide +kernel)) ggX11_startsLastHour_X11_startsLately
theorem dX11_startsLastHour_0 : decode cX11_startsLastHour 0 = .ok (.aload_n 0, 1) := by decide +kernel
theorem dX11_startsLastHour_1 : decode cX11_startsLastHour 1 = .ok (.invokevirtual 118, 3) := by decide +kernel
theorem dX11_startsLastHour_4 : decode cX11_startsLastHour 4 = .ok (.ireturn, 1) := by decide +kernel
theorem dX11_starts_0 : decode cX11_starts 0 = .ok (.aload_n 0, 1) := by decide +kernel
theorem dX11_starts_1 : decode cX11_starts 1 = .ok (.getfield 7, 3) := by decide +kernel
theorem dX11_starts_4 : decode cX11_starts 4 = .ok (.bipush 105, 2) := by decide +kernel
theorem dX11_starts_6 : decode cX11_starts 6 = .ok (.laload, 1) := by decide +kernel
theorem dX11_starts_7 : decode cX11_starts 7 = .ok (.l2i, 1) := by decide +kernel
theorem dX11_starts_8 : decode cX11_starts 8 = .ok (.ireturn, 1) := by decide +kernel
theorem dX11_defrosts_0 : decode cX11_defrosts 0 = .ok (.aload_n 0, 1) := by decide +kernel
theorem dX11_defrosts_1 : decode cX11_defrosts 1 = .ok (.getfield 7, 3) := by decide +kernel
theorem dX11_defrosts_4 : decode cX11_defrosts 4 = .ok (.bipush 106, 2) := by decide +kernel
theorem dX11_defrosts_6 : decode cX11_defrosts 6 = .ok (.laload, 1) := by decide +kernel
theorem dX11_defrosts_7 : decode cX11_defrosts 7 = .ok (.l2i, 1) := by decide +kernel
theorem dX11_defrosts_8 : decode cX11_defrosts 8 = .ok (.ireturn, 1) := by decide +kernel
theorem dX11_frost_0 : decode cX11_frost 0 = .ok (.aload_n 0, 1) := by decide +kernel
theorem dX11_frost_1 : decode cX11_frost 1 = .ok (.getfield 7, 3) := by decide +kernel
theorem dX11_frost_4 : decode cX11_frost 4 = .ok (.bipush 89, 2) := by decide +kernel
theorem dX11_frost_6 : decode cX11_frost 6 = .ok (.laload, 1) := by decide +kernel
theorem dX11_frost_7 : decode cX11_frost 7 = .ok (.l2i, 1) := by decide +kernel
theorem dX11_frost_8 : decode cX11_frost 8 = .ok (.ireturn, 1) := by decide +kernel
theorem dX11_produced_0 : decode cX11_produced 0 = .ok (.aload_n 0, 1) := by decide +kernel
theorem dX11_produced_1 : decode cX11_produced 1 = .ok (.getfield 7, 3) := by decide +kernel
theorem dX11_produced_4 : decode cX11_produced 4 = .ok (.bipush 107, 2) := by decide +kernel
theorem dX11_produced_6 : decode cX11_produced 6 = .ok (.laload, 1) := by decide +kernel
theorem dX11_produced_7 : decode cX11_produced 7 = .ok (.lreturn, 1) := by decide +kernel
theorem dX11_defrostHeat_0 : decode cX11_defrostHeat 0 = .ok (.aload_n 0, 1) := by decide +kernel
theorem dX11_defrostHeat_1 : decode cX11_defrostHeat 1 = .ok (.getfield 7, 3) := by decide +kernel
theorem dX11_defrostHeat_4 : decode cX11_defrostHeat 4 = .ok (.bipush 108, 2) := by decide +kernel
theorem dX11_defrostHeat_6 : decode cX11_defrostHeat 6 = .ok (.laload, 1) := by decide +kernel
theorem dX11_defrostHeat_7 : decode cX11_defrostHeat 7 = .ok (.lreturn, 1) := by decide +kernel
theorem dX11_drawn_0 : decode cX11_drawn 0 = .ok (.aload_n 0, 1) := by decide +kernel
theorem dX11_drawn_1 : decode cX11_drawn 1 = .ok (.getfield 7, 3) := by decide +kernel
theorem dX11_drawn_4 : decode cX11_drawn 4 = .ok (.bipush 109, 2) := by decide +kernel
theorem dX11_drawn_6 : decode cX11_drawn 6 = .ok (.laload, 1) := by decide +kernel
theorem dX11_drawn_7 : decode cX11_drawn 7 = .ok (.lreturn, 1) := by decide +kernel
theorem dX11_unmet_0 : decode cX11_unmet 0 = .ok (.aload_n 0, 1) := by decide +kernel
theorem dX11_unmet_1 : decode cX11_unmet 1 = .ok (.getfield 7, 3) := by decide +kernel
theorem dX11_unmet_4 : decode cX11_unmet 4 = .ok (.bipush 110, 2) := by decide +kernel
theorem dX11_unmet_6 : decode cX11_unmet 6 = .ok (.laload, 1) := by decide +kernel
theorem dX11_unmet_7 : decode cX11_unmet 7 = .ok (.lreturn, 1) := by decide +kernel
theorem dX11_lost_0 : decode cX11_lost 0 = .ok (.aload_n 0, 1) := by decide +kernel
theorem dX11_lost_1 : decode cX11_lost 1 = .ok (.getfield 7, 3) := by decide +kernel
theorem dX11_lost_4 : decode cX11_lost 4 = .ok (.bipush 111, 2) := by decide +kernel
theorem dX11_lost_6 : decode cX11_lost 6 = .ok (.laload, 1) := by decide +kernel
theorem dX11_lost_7 : decode cX11_lost 7 = .ok (.lreturn, 1) := by decide +kernel
theorem dX11_electricity_0 : decode cX11_electricity 0 = .ok (.aload_n 0, 1) := by decide +kernel
theorem dX11_electricity_1 : decode cX11_electricity 1 = .ok (.getfield 7, 3) := by decide +kernel
theorem dX11_electricity_4 : decode cX11_electricity 4 = .ok (.bipush 112, 2) := by decide +kernel
theorem dX11_electricity_6 : decode cX11_electricity 6 = .ok (.laload, 1) := by decide +kernel
theorem dX11_electricity_7 : decode cX11_electricity 7 = .ok (.lreturn, 1) := by decide +kernel
theorem dX11_cost_0 : decode cX11_cost 0 = .ok (.aload_n 0, 1) := by decide +kernel
theorem dX11_cost_1 : decode cX11_cost 1 = .ok (.getfield 7, 3) := by decide +kernel
theorem dX11_cost_4 : decode cX11_cost 4 = .ok (.bipush 113, 2) := by decide +kernel
theorem dX11_cost_6 : decode cX11_cost 6 = .ok (.laload, 1) := by decide +kernel
theorem dX11_cost_7 : decode cX11_cost 7 = .ok (.lreturn, 1) := by decide +kernel
set_option maxRecDepth 20000 in
theorem ggX11_meanPercentage_X11_electricity : GoodIn wsX11_meanPercentage wsX11_electricity := goodIn_r _ [6, 7, 12, 13, 14, 15, 16, 17, 18, 19, 20, 21] (by decide +kernel) (by decide +kernel)
set_option maxRecDepth 20000 in
theorem gX11_meanPercentage_X11_electricity : GoodIn wsX11_meanPercentage (wsV RX11 170 RX11 yX11_electricity wsX11_electricity) := goodIn_app (goodIn_of _ (by decide +kernel)) ggX11_meanPercentage_X11_electricity
set_option maxRecDepth 20000 in
theorem ggX11_meanPercentage_X11_produced : GoodIn wsX11_meanPercentage wsX11_produced := goodIn_r _ [11, 7, 12, 13, 14, 15, 16, 17, 18, 19, 20, 21] (by decide +kernel) (by decide +kernel)
set_option maxRecDepth 20000 in
theorem gX11_meanPercentage_X11_produced : GoodIn wsX11_meanPercentage (wsV RX11 174 RX11 yX11_produced wsX11_produced) := goodIn_app (goodIn_of _ (by decide +kernel)) ggX11_meanPercentage_X11_produced
theorem dX11_meanPercentage_0 : decode cX11_meanPercentage 0 = .ok (.aload_n 0, 1) := by decide +kernel
theorem dX11_meanPercentage_1 : decode cX11_meanPercentage 1 = .ok (.invokevirtual 170, 3) := by decide +kernel
theorem dX11_meanPercentage_4 : decode cX11_meanPercentage 4 = .ok (.lconst 0, 1) := by decide +kernel
theorem dX11_meanPercentage_5 : decode cX11_meanPercentage 5 = .ok (.lcmp, 1) := by decide +kernel
theorem dX11_meanPercentage_6 : decode cX11_meanPercentage 6 = .ok (.ifCond .ne 7, 3) := by decide +kernel
theorem dX11_meanPercentage_9 : decode cX11_meanPercentage 9 = .ok (.dconst 0, 1) := by decide +kernel
theorem dX11_meanPercentage_10 : decode cX11_meanPercentage 10 = .ok (.goto 18, 3) := by decide +kernel
theorem dX11_meanPercentage_13 : decode cX11_meanPercentage 13 = .ok (.aload_n 0, 1) := by decide +kernel
theorem dX11_meanPercentage_14 : decode cX11_meanPercentage 14 = .ok (.invokevirtual 174, 3) := by decide +kernel
theorem dX11_meanPercentage_17 : decode cX11_meanPercentage 17 = .ok (.l2d, 1) := by decide +kernel
theorem dX11_meanPercentage_18 : decode cX11_meanPercentage 18 = .ok (.ldc2_w 177, 3) := by decide +kernel
theorem dX11_meanPercentage_21 : decode cX11_meanPercentage 21 = .ok (.dmul, 1) := by decide +kernel
theorem dX11_meanPercentage_22 : decode cX11_meanPercentage 22 = .ok (.aload_n 0, 1) := by decide +kernel
theorem dX11_meanPercentage_23 : decode cX11_meanPercentage 23 = .ok (.invokevirtual 170, 3) := by decide +kernel
theorem dX11_meanPercentage_26 : decode cX11_meanPercentage 26 = .ok (.l2d, 1) := by decide +kernel
theorem dX11_meanPercentage_27 : decode cX11_meanPercentage 27 = .ok (.ddiv, 1) := by decide +kernel
theorem dX11_meanPercentage_28 : decode cX11_meanPercentage 28 = .ok (.dreturn, 1) := by decide +kernel
set_option maxRecDepth 20000 in
theorem ggX11_putAside_X11_copies : GoodIn wsX11_putAside wsX11_copies := goodIn_r _ [5, 6, 7, 8, 9, 10, 11, 12, 13, 14, 15, 16] (by decide +kernel) (by decide +kernel)
set_option maxRecDepth 20000 in
theorem gX11_putAside_X11_copies : GoodIn wsX11_putAside (wsV RX11 51 RX11 yX11_copies wsX11_copies) := goodIn_app (goodIn_of _ (by decide +kernel)) ggX11_putAside_X11_copies
theorem dX11_putAside_0 : decode cX11_putAside 0 = .ok (.aload_n 0, 1) := by decide +kernel
theorem dX11_putAside_1 : decode cX11_putAside 1 = .ok (.iconst 0, 1) := by decide +kernel
theorem dX11_putAside_2 : decode cX11_putAside 2 = .ok (.sipush 870, 3) := by decide +kernel
theorem dX11_putAside_5 : decode cX11_putAside 5 = .ok (.invokevirtual 51, 3) := by decide +kernel
theorem dX11_putAside_8 : decode cX11_putAside 8 = .ok (.return_, 1) := by decide +kernel
set_option maxRecDepth 20000 in
theorem ggX11_comesBack_X11_copies : GoodIn wsX11_comesBack wsX11_copies := goodIn_r _ [5, 6, 7, 8, 9, 10, 11, 12, 13, 14, 15, 16] (by decide +kernel) (by decide +kernel)
set_option maxRecDepth 20000 in
theorem gX11_comesBack_X11_copies : GoodIn wsX11_comesBack (wsV RX11 51 RX11 yX11_copies wsX11_copies) := goodIn_app (goodIn_of _ (by decide +kernel)) ggX11_comesBack_X11_copies
theorem dX11_comesBack_0 : decode cX11_comesBack 0 = .ok (.aload_n 0, 1) := by decide +kernel
theorem dX11_comesBack_1 : decode cX11_comesBack 1 = .ok (.sipush 870, 3) := by decide +kernel
theorem dX11_comesBack_4 : decode cX11_comesBack 4 = .ok (.iconst 0, 1) := by decide +kernel
theorem dX11_comesBack_5 : decode cX11_comesBack 5 = .ok (.invokevirtual 51, 3) := by decide +kernel
theorem dX11_comesBack_8 : decode cX11_comesBack 8 = .ok (.return_, 1) := by decide +kernel
set_option maxRecDepth 20000 in
theorem ggX11_costIn_X11_in : GoodIn wsX11_costIn wsX11_in := goodIn_r _ [6] (by decide +kernel) (by decide +kernel)
set_option maxRecDepth 20000 in
theorem gX11_costIn_X11_in : GoodIn wsX11_costIn (va_wsS RX11 56 yX11_in wsX11_in) := goodIn_app (goodIn_of _ (by decide +kernel)) ggX11_costIn_X11_in
set_option maxRecDepth 20000 in
theorem ggX11_costIn_X11_putAside : GoodIn wsX11_costIn wsX11_putAside := goodIn_r _ [10, 11, 12, 13, 5, 14, 15, 95, 96, 97, 98, 99, 100, 101, 102, 103, 104] (by decide +kernel) (by decide +kernel)
set_option maxRecDepth 20000 in
theorem gX11_costIn_X11_putAside : GoodIn wsX11_costIn (wsV RX11 183 RX11 yX11_putAside wsX11_putAside) := goodIn_app (goodIn_of _ (by decide +kernel)) ggX11_costIn_X11_putAside
set_option maxRecDepth 20000 in
theorem ggX11_costIn_X11_cost : GoodIn wsX11_costIn wsX11_cost := goodIn_r _ [19, 15, 95, 96, 97, 98, 99, 100, 101, 102, 103, 104] (by decide +kernel) (by decide +kernel)
set_option maxRecDepth 20000 in
theorem gX11_costIn_X11_cost : GoodIn wsX11_costIn (wsV RX11 186 RX11 yX11_cost wsX11_cost) := goodIn_app (goodIn_of _ (by decide +kernel)) ggX11_costIn_X11_cost
set_option maxRecDepth 20000 in
theorem ggX11_costIn_X11_minutes : GoodIn wsX11_costIn wsX11_minutes := goodIn_r _ [23, 24, 25, 26, 5, 27, 15, 28, 29, 30, 31, 32, 33, 34, 35, 36, 37, 38, 39, 40, 41, 42, 43, 44, 45, 46, 47, 48, 49, 50, 51, 52, 53, 54, 55, 56, 57, 58, 59, 60, 61, 62, 63, 64, 65, 66, 67, 68, 69, 70, 71, 72, 73, 74, 75, 76, 77, 78, 79, 80, 81, 82, 83, 84, 85, 86, 87, 88, 89, 90, 95, 96, 97, 98, 99, 100, 101, 102, 103, 104] (by decide +kernel) (by decide +kernel)
set_option maxRecDepth 20000 in
theorem gX11_costIn_X11_minutes : GoodIn wsX11_costIn (wsV RX11 165 RX11 yX11_minutes wsX11_minutes) := goodIn_app (goodIn_of _ (by decide +kernel)) ggX11_costIn_X11_minutes
set_option maxRecDepth 20000 in
theorem ggX11_costIn_X11_comesBack : GoodIn wsX11_costIn wsX11_comesBack := goodIn_r _ [94, 11, 12, 13, 5, 14, 15, 95, 96, 97, 98, 99, 100, 101, 102, 103, 104] (by decide +kernel) (by decide +kernel)
set_option maxRecDepth 20000 in
theorem gX11_costIn_X11_comesBack : GoodIn wsX11_costIn (wsV RX11 189 RX11 yX11_comesBack wsX11_comesBack) := goodIn_app (goodIn_of _ (by decide +kernel)) ggX11_costIn_X11_comesBack
theorem dX11_costIn_0 : decode cX11_costIn 0 = .ok (.iload_n 1, 1) := by decide +kernel
theorem dX11_costIn_1 : decode cX11_costIn 1 = .ok (.i2l, 1) := by decide +kernel
theorem dX11_costIn_2 : decode cX11_costIn 2 = .ok (.lconst 1, 1) := by decide +kernel
theorem dX11_costIn_3 : decode cX11_costIn 3 = .ok (.ldc2_w 179, 3) := by decide +kernel
theorem dX11_costIn_6 : decode cX11_costIn 6 = .ok (.invokestatic 56, 3) := by decide +kernel
theorem dX11_costIn_9 : decode cX11_costIn 9 = .ok (.ifCond .ne 7, 3) := by decide +kernel
theorem dX11_costIn_12 : decode cX11_costIn 12 = .ok (.ldc2_w 181, 3) := by decide +kernel
theorem dX11_costIn_15 : decode cX11_costIn 15 = .ok (.lreturn, 1) := by decide +kernel
theorem dX11_costIn_16 : decode cX11_costIn 16 = .ok (.aload_n 0, 1) := by decide +kernel
theorem dX11_costIn_17 : decode cX11_costIn 17 = .ok (.invokevirtual 183, 3) := by decide +kernel
theorem dX11_costIn_20 : decode cX11_costIn 20 = .ok (.aload_n 0, 1) := by decide +kernel
theorem dX11_costIn_21 : decode cX11_costIn 21 = .ok (.invokevirtual 186, 3) := by decide +kernel
theorem dX11_costIn_24 : decode cX11_costIn 24 = .ok (.lstore_n 2, 1) := by decide +kernel
theorem dX11_costIn_25 : decode cX11_costIn 25 = .ok (.aload_n 0, 1) := by decide +kernel
theorem dX11_costIn_26 : decode cX11_costIn 26 = .ok (.iload_n 1, 1) := by decide +kernel
theorem dX11_costIn_27 : decode cX11_costIn 27 = .ok (.invokevirtual 165, 3) := by decide +kernel
theorem dX11_costIn_30 : decode cX11_costIn 30 = .ok (.aload_n 0, 1) := by decide +kernel
theorem dX11_costIn_31 : decode cX11_costIn 31 = .ok (.invokevirtual 186, 3) := by decide +kernel
theorem dX11_costIn_34 : decode cX11_costIn 34 = .ok (.lload_n 2, 1) := by decide +kernel
theorem dX11_costIn_35 : decode cX11_costIn 35 = .ok (.lsub, 1) := by decide +kernel
theorem dX11_costIn_36 : decode cX11_costIn 36 = .ok (.lstore 4, 2) := by decide +kernel
theorem dX11_costIn_38 : decode cX11_costIn 38 = .ok (.aload_n 0, 1) := by decide +kernel
theorem dX11_costIn_39 : decode cX11_costIn 39 = .ok (.invokevirtual 189, 3) := by decide +kernel
theorem dX11_costIn_42 : decode cX11_costIn 42 = .ok (.lload 4, 2) := by decide +kernel
theorem dX11_costIn_44 : decode cX11_costIn 44 = .ok (.lreturn, 1) := by decide +kernel
set_option maxRecDepth 20000 in
theorem ggX11_nextSwitch_X11_putAside : GoodIn wsX11_nextSwitch wsX11_putAside := goodIn_r _ [6, 7, 8, 9, 5, 10, 1, 82, 83, 84, 85, 86, 87, 88, 89, 90, 91] (by decide +kernel) (by decide +kernel)
set_option maxRecDepth 20000 in
theorem gX11_nextSwitch_X11_putAside : GoodIn wsX11_nextSwitch (wsV RX11 183 RX11 yX11_putAside wsX11_putAside) := goodIn_app (goodIn_of _ (by decide +kernel)) ggX11_nextSwitch_X11_putAside
set_option maxRecDepth 20000 in
theorem ggX11_nextSwitch_X11_minute : GoodIn wsX11_nextSwitch wsX11_minute := goodIn_r _ [14, 1, 15, 16, 17, 18, 19, 20, 5, 21, 22, 23, 24, 25, 26, 27, 28, 29, 30, 31, 32, 33, 34, 35, 36, 37, 38, 39, 40, 41, 42, 43, 44, 45, 46, 47, 48, 49, 50, 51, 52, 53, 54, 55, 56, 57, 58, 59, 60, 61, 62, 63, 64, 65, 66, 67, 68, 69, 70, 71, 72, 73, 74, 75, 76, 77, 82, 83, 84, 85, 86, 87, 88, 89, 90, 91] (by decide +kernel) (by decide +kernel)
set_option maxRecDepth 20000 in
theorem gX11_nextSwitch_X11_minute : GoodIn wsX11_nextSwitch (wsV RX11 158 RX11 yX11_minute wsX11_minute) := goodIn_app (goodIn_of _ (by decide +kernel)) ggX11_nextSwitch_X11_minute
set_option maxRecDepth 20000 in
theorem ggX11_nextSwitch_X11_comesBack : GoodIn wsX11_nextSwitch wsX11_comesBack := goodIn_r _ [81, 7, 8, 9, 5, 10, 1, 82, 83, 84, 85, 86, 87, 88, 89, 90, 91] (by decide +kernel) (by decide +kernel)
set_option maxRecDepth 20000 in
theorem gX11_nextSwitch_X11_comesBack : GoodIn wsX11_nextSwitch (wsV RX11 189 RX11 yX11_comesBack wsX11_comesBack) := goodIn_app (goodIn_of _ (by decide +kernel)) ggX11_nextSwitch_X11_comesBack
theorem dX11_nextSwitch_0 : decode cX11_nextSwitch 0 = .ok (.aload_n 0, 1) := by decide +kernel
theorem dX11_nextSwitch_1 : decode cX11_nextSwitch 1 = .ok (.getfield 7, 3) := by decide +kernel
theorem dX11_nextSwitch_4 : decode cX11_nextSwitch 4 = .ok (.bipush 86, 2) := by decide +kernel
theorem dX11_nextSwitch_6 : decode cX11_nextSwitch 6 = .ok (.laload, 1) := by decide +kernel
theorem dX11_nextSwitch_7 : decode cX11_nextSwitch 7 = .ok (.lconst 0, 1) := by decide +kernel
theorem dX11_nextSwitch_8 : decode cX11_nextSwitch 8 = .ok (.lcmp, 1) := by decide +kernel
theorem dX11_nextSwitch_9 : decode cX11_nextSwitch 9 = .ok (.ifCond .ne 7, 3) := by decide +kernel
theorem dX11_nextSwitch_12 : decode cX11_nextSwitch 12 = .ok (.iconst 1, 1) := by decide +kernel
theorem dX11_nextSwitch_13 : decode cX11_nextSwitch 13 = .ok (.goto 4, 3) := by decide +kernel
theorem dX11_nextSwitch_16 : decode cX11_nextSwitch 16 = .ok (.iconst 0, 1) := by decide +kernel
theorem dX11_nextSwitch_17 : decode cX11_nextSwitch 17 = .ok (.istore_n 1, 1) := by decide +kernel
theorem dX11_nextSwitch_18 : decode cX11_nextSwitch 18 = .ok (.sipush (-9999), 3) := by decide +kernel
theorem dX11_nextSwitch_21 : decode cX11_nextSwitch 21 = .ok (.istore_n 2, 1) := by decide +kernel
theorem dX11_nextSwitch_22 : decode cX11_nextSwitch 22 = .ok (.aload_n 0, 1) := by decide +kernel
theorem dX11_nextSwitch_23 : decode cX11_nextSwitch 23 = .ok (.invokevirtual 183, 3) := by decide +kernel
theorem dX11_nextSwitch_26 : decode cX11_nextSwitch 26 = .ok (.iconst 1, 1) := by decide +kernel
theorem dX11_nextSwitch_27 : decode cX11_nextSwitch 27 = .ok (.istore_n 3, 1) := by decide +kernel
theorem dX11_nextSwitch_28 : decode cX11_nextSwitch 28 = .ok (.iload_n 3, 1) := by decide +kernel
theorem dX11_nextSwitch_29 : decode cX11_nextSwitch 29 = .ok (.sipush 720, 3) := by decide +kernel
theorem dX11_nextSwitch_32 : decode cX11_nextSwitch 32 = .ok (.if_icmp .gt 49, 3) := by decide +kernel
theorem dX11_nextSwitch_35 : decode cX11_nextSwitch 35 = .ok (.iload_n 2, 1) := by decide +kernel
theorem dX11_nextSwitch_36 : decode cX11_nextSwitch 36 = .ok (.sipush (-9999), 3) := by decide +kernel
theorem dX11_nextSwitch_39 : decode cX11_nextSwitch 39 = .ok (.if_icmp .ne 42, 3) := by decide +kernel
theorem dX11_nextSwitch_42 : decode cX11_nextSwitch 42 = .ok (.aload_n 0, 1) := by decide +kernel
theorem dX11_nextSwitch_43 : decode cX11_nextSwitch 43 = .ok (.invokevirtual 158, 3) := by decide +kernel
theorem dX11_nextSwitch_46 : decode cX11_nextSwitch 46 = .ok (.aload_n 0, 1) := by decide +kernel
theorem dX11_nextSwitch_47 : decode cX11_nextSwitch 47 = .ok (.getfield 7, 3) := by decide +kernel
theorem dX11_nextSwitch_50 : decode cX11_nextSwitch 50 = .ok (.bipush 86, 2) := by decide +kernel
theorem dX11_nextSwitch_52 : decode cX11_nextSwitch 52 = .ok (.laload, 1) := by decide +kernel
theorem dX11_nextSwitch_53 : decode cX11_nextSwitch 53 = .ok (.lconst 0, 1) := by decide +kernel
theorem dX11_nextSwitch_54 : decode cX11_nextSwitch 54 = .ok (.lcmp, 1) := by decide +kernel
theorem dX11_nextSwitch_55 : decode cX11_nextSwitch 55 = .ok (.ifCond .ne 7, 3) := by decide +kernel
theorem dX11_nextSwitch_58 : decode cX11_nextSwitch 58 = .ok (.iconst 1, 1) := by decide +kernel
theorem dX11_nextSwitch_59 : decode cX11_nextSwitch 59 = .ok (.goto 4, 3) := by decide +kernel
theorem dX11_nextSwitch_62 : decode cX11_nextSwitch 62 = .ok (.iconst 0, 1) := by decide +kernel
theorem dX11_nextSwitch_63 : decode cX11_nextSwitch 63 = .ok (.iload_n 1, 1) := by decide +kernel
theorem dX11_nextSwitch_64 : decode cX11_nextSwitch 64 = .ok (.if_icmp .eq 7, 3) := by decide +kernel
theorem dX11_nextSwitch_67 : decode cX11_nextSwitch 67 = .ok (.iload_n 3, 1) := by decide +kernel
theorem dX11_nextSwitch_68 : decode cX11_nextSwitch 68 = .ok (.goto 6, 3) := by decide +kernel
theorem dX11_nextSwitch_71 : decode cX11_nextSwitch 71 = .ok (.sipush (-9999), 3) := by decide +kernel
theorem dX11_nextSwitch_74 : decode cX11_nextSwitch 74 = .ok (.istore_n 2, 1) := by decide +kernel
theorem dX11_nextSwitch_75 : decode cX11_nextSwitch 75 = .ok (.iinc 3 1, 3) := by decide +kernel
theorem dX11_nextSwitch_78 : decode cX11_nextSwitch 78 = .ok (.goto (-50), 3) := by decide +kernel
theorem dX11_nextSwitch_81 : decode cX11_nextSwitch 81 = .ok (.aload_n 0, 1) := by decide +kernel
theorem dX11_nextSwitch_82 : decode cX11_nextSwitch 82 = .ok (.invokevirtual 189, 3) := by decide +kernel
theorem dX11_nextSwitch_85 : decode cX11_nextSwitch 85 = .ok (.iload_n 2, 1) := by decide +kernel
theorem dX11_nextSwitch_86 : decode cX11_nextSwitch 86 = .ok (.ireturn, 1) := by decide +kernel
set_option maxRecDepth 20000 in
theorem ggX11_bestBoost_X11_in : GoodIn wsX11_bestBoost wsX11_in := goodIn_r _ [6] (by decide +kernel) (by decide +kernel)
set_option maxRecDepth 20000 in
theorem gX11_bestBoost_X11_in : GoodIn wsX11_bestBoost (va_wsS RX11 56 yX11_in wsX11_in) := goodIn_app (goodIn_of _ (by decide +kernel)) ggX11_bestBoost_X11_in
set_option maxRecDepth 20000 in
theorem ggX11_bestBoost_X11_putAside : GoodIn wsX11_bestBoost wsX11_putAside := goodIn_r _ [10, 11, 12, 13, 5, 14, 2, 98, 99, 100, 101, 102, 103, 104, 105, 106, 107] (by decide +kernel) (by decide +kernel)
set_option maxRecDepth 20000 in
theorem gX11_bestBoost_X11_putAside : GoodIn wsX11_bestBoost (wsV RX11 183 RX11 yX11_putAside wsX11_putAside) := goodIn_app (goodIn_of _ (by decide +kernel)) ggX11_bestBoost_X11_putAside
set_option maxRecDepth 20000 in
theorem ggX11_bestBoost_X11_minutes : GoodIn wsX11_bestBoost wsX11_minutes := goodIn_r _ [18, 19, 20, 21, 5, 22, 2, 23, 24, 25, 26, 27, 28, 29, 30, 31, 32, 33, 34, 35, 36, 37, 38, 39, 40, 41, 42, 43, 44, 45, 46, 47, 48, 49, 50, 51, 52, 53, 54, 55, 56, 57, 58, 59, 60, 61, 62, 63, 64, 65, 66, 67, 68, 69, 70, 71, 72, 73, 74, 75, 76, 77, 78, 79, 80, 81, 82, 83, 84, 85, 98, 99, 100, 101, 102, 103, 104, 105, 106, 107] (by decide +kernel) (by decide +kernel)
set_option maxRecDepth 20000 in
theorem gX11_bestBoost_X11_minutes : GoodIn wsX11_bestBoost (wsV RX11 165 RX11 yX11_minutes wsX11_minutes) := goodIn_app (goodIn_of _ (by decide +kernel)) ggX11_bestBoost_X11_minutes
set_option maxRecDepth 20000 in
theorem ggX11_bestBoost_X11_unmet : GoodIn wsX11_bestBoost wsX11_unmet := goodIn_r _ [89, 2, 98, 99, 100, 101, 102, 103, 104, 105, 106, 107] (by decide +kernel) (by decide +kernel)
set_option maxRecDepth 20000 in
theorem gX11_bestBoost_X11_unmet : GoodIn wsX11_bestBoost (wsV RX11 194 RX11 yX11_unmet wsX11_unmet) := goodIn_app (goodIn_of _ (by decide +kernel)) ggX11_bestBoost_X11_unmet
set_option maxRecDepth 20000 in
theorem ggX11_bestBoost_X11_cost : GoodIn wsX11_bestBoost wsX11_cost := goodIn_r _ [93, 2, 98, 99, 100, 101, 102, 103, 104, 105, 106, 107] (by decide +kernel) (by decide +kernel)
set_option maxRecDepth 20000 in
theorem gX11_bestBoost_X11_cost : GoodIn wsX11_bestBoost (wsV RX11 186 RX11 yX11_cost wsX11_cost) := goodIn_app (goodIn_of _ (by decide +kernel)) ggX11_bestBoost_X11_cost
set_option maxRecDepth 20000 in
theorem ggX11_bestBoost_X11_comesBack : GoodIn wsX11_bestBoost wsX11_comesBack := goodIn_r _ [97, 11, 12, 13, 5, 14, 2, 98, 99, 100, 101, 102, 103, 104, 105, 106, 107] (by decide +kernel) (by decide +kernel)
set_option maxRecDepth 20000 in
theorem gX11_bestBoost_X11_comesBack : GoodIn wsX11_bestBoost (wsV RX11 189 RX11 yX11_comesBack wsX11_comesBack) := goodIn_app (goodIn_of _ (by decide +kernel)) ggX11_bestBoost_X11_comesBack
theorem dX11_bestBoost_0 : decode cX11_bestBoost 0 = .ok (.iload_n 1, 1) := by decide +kernel
theorem dX11_bestBoost_1 : decode cX11_bestBoost 1 = .ok (.i2l, 1) := by decide +kernel
theorem dX11_bestBoost_2 : decode cX11_bestBoost 2 = .ok (.lconst 1, 1) := by decide +kernel
theorem dX11_bestBoost_3 : decode cX11_bestBoost 3 = .ok (.ldc2_w 192, 3) := by decide +kernel
theorem dX11_bestBoost_6 : decode cX11_bestBoost 6 = .ok (.invokestatic 56, 3) := by decide +kernel
theorem dX11_bestBoost_9 : decode cX11_bestBoost 9 = .ok (.ifCond .ne 5, 3) := by decide +kernel
theorem dX11_bestBoost_12 : decode cX11_bestBoost 12 = .ok (.iconst (-1), 1) := by decide +kernel
theorem dX11_bestBoost_13 : decode cX11_bestBoost 13 = .ok (.ireturn, 1) := by decide +kernel
theorem dX11_bestBoost_14 : decode cX11_bestBoost 14 = .ok (.sipush (-9999), 3) := by decide +kernel
theorem dX11_bestBoost_17 : decode cX11_bestBoost 17 = .ok (.istore_n 2, 1) := by decide +kernel
theorem dX11_bestBoost_18 : decode cX11_bestBoost 18 = .ok (.lconst 0, 1) := by decide +kernel
theorem dX11_bestBoost_19 : decode cX11_bestBoost 19 = .ok (.lstore_n 3, 1) := by decide +kernel
theorem dX11_bestBoost_20 : decode cX11_bestBoost 20 = .ok (.lconst 0, 1) := by decide +kernel
theorem dX11_bestBoost_21 : decode cX11_bestBoost 21 = .ok (.lstore 5, 2) := by decide +kernel
theorem dX11_bestBoost_23 : decode cX11_bestBoost 23 = .ok (.aload_n 0, 1) := by decide +kernel
theorem dX11_bestBoost_24 : decode cX11_bestBoost 24 = .ok (.invokevirtual 183, 3) := by decide +kernel
theorem dX11_bestBoost_27 : decode cX11_bestBoost 27 = .ok (.iconst 0, 1) := by decide +kernel
theorem dX11_bestBoost_28 : decode cX11_bestBoost 28 = .ok (.istore 7, 2) := by decide +kernel
theorem dX11_bestBoost_30 : decode cX11_bestBoost 30 = .ok (.iload 7, 2) := by decide +kernel
theorem dX11_bestBoost_32 : decode cX11_bestBoost 32 = .ok (.sipush 150, 3) := by decide +kernel
theorem dX11_bestBoost_35 : decode cX11_bestBoost 35 = .ok (.if_icmp .gt 111, 3) := by decide +kernel
theorem dX11_bestBoost_38 : decode cX11_bestBoost 38 = .ok (.aload_n 0, 1) := by decide +kernel
theorem dX11_bestBoost_39 : decode cX11_bestBoost 39 = .ok (.getfield 7, 3) := by decide +kernel
theorem dX11_bestBoost_42 : decode cX11_bestBoost 42 = .ok (.iconst 5, 1) := by decide +kernel
theorem dX11_bestBoost_43 : decode cX11_bestBoost 43 = .ok (.iload 7, 2) := by decide +kernel
theorem dX11_bestBoost_45 : decode cX11_bestBoost 45 = .ok (.i2l, 1) := by decide +kernel
theorem dX11_bestBoost_46 : decode cX11_bestBoost 46 = .ok (.lastore, 1) := by decide +kernel
theorem dX11_bestBoost_47 : decode cX11_bestBoost 47 = .ok (.aload_n 0, 1) := by decide +kernel
theorem dX11_bestBoost_48 : decode cX11_bestBoost 48 = .ok (.iload_n 1, 1) := by decide +kernel
theorem dX11_bestBoost_49 : decode cX11_bestBoost 49 = .ok (.invokevirtual 165, 3) := by decide +kernel
theorem dX11_bestBoost_52 : decode cX11_bestBoost 52 = .ok (.iload_n 2, 1) := by decide +kernel
theorem dX11_bestBoost_53 : decode cX11_bestBoost 53 = .ok (.sipush (-9999), 3) := by decide +kernel
theorem dX11_bestBoost_56 : decode cX11_bestBoost 56 = .ok (.if_icmp .eq 31, 3) := by decide +kernel
theorem dX11_bestBoost_59 : decode cX11_bestBoost 59 = .ok (.aload_n 0, 1) := by decide +kernel
theorem dX11_bestBoost_60 : decode cX11_bestBoost 60 = .ok (.invokevirtual 194, 3) := by decide +kernel
theorem dX11_bestBoost_63 : decode cX11_bestBoost 63 = .ok (.lload_n 3, 1) := by decide +kernel
theorem dX11_bestBoost_64 : decode cX11_bestBoost 64 = .ok (.lcmp, 1) := by decide +kernel
theorem dX11_bestBoost_65 : decode cX11_bestBoost 65 = .ok (.ifCond .lt 22, 3) := by decide +kernel
theorem dX11_bestBoost_68 : decode cX11_bestBoost 68 = .ok (.aload_n 0, 1) := by decide +kernel
theorem dX11_bestBoost_69 : decode cX11_bestBoost 69 = .ok (.invokevirtual 194, 3) := by decide +kernel
theorem dX11_bestBoost_72 : decode cX11_bestBoost 72 = .ok (.lload_n 3, 1) := by decide +kernel
theorem dX11_bestBoost_73 : decode cX11_bestBoost 73 = .ok (.lcmp, 1) := by decide +kernel
theorem dX11_bestBoost_74 : decode cX11_bestBoost 74 = .ok (.ifCond .ne 17, 3) := by decide +kernel
theorem dX11_bestBoost_77 : decode cX11_bestBoost 77 = .ok (.aload_n 0, 1) := by decide +kernel
theorem dX11_bestBoost_78 : decode cX11_bestBoost 78 = .ok (.invokevirtual 186, 3) := by decide +kernel
theorem dX11_bestBoost_81 : decode cX11_bestBoost 81 = .ok (.lload 5, 2) := by decide +kernel
theorem dX11_bestBoost_83 : decode cX11_bestBoost 83 = .ok (.lcmp, 1) := by decide +kernel
theorem dX11_bestBoost_84 : decode cX11_bestBoost 84 = .ok (.ifCond .ge 7, 3) := by decide +kernel
theorem dX11_bestBoost_87 : decode cX11_bestBoost 87 = .ok (.iconst 1, 1) := by decide +kernel
theorem dX11_bestBoost_88 : decode cX11_bestBoost 88 = .ok (.goto 4, 3) := by decide +kernel
theorem dX11_bestBoost_91 : decode cX11_bestBoost 91 = .ok (.iconst 0, 1) := by decide +kernel
theorem dX11_bestBoost_92 : decode cX11_bestBoost 92 = .ok (.istore 8, 2) := by decide +kernel
theorem dX11_bestBoost_94 : decode cX11_bestBoost 94 = .ok (.iload 8, 2) := by decide +kernel
theorem dX11_bestBoost_96 : decode cX11_bestBoost 96 = .ok (.ifCond .eq 8, 3) := by decide +kernel
theorem dX11_bestBoost_99 : decode cX11_bestBoost 99 = .ok (.iload 7, 2) := by decide +kernel
theorem dX11_bestBoost_101 : decode cX11_bestBoost 101 = .ok (.goto 4, 3) := by decide +kernel
theorem dX11_bestBoost_104 : decode cX11_bestBoost 104 = .ok (.iload_n 2, 1) := by decide +kernel
theorem dX11_bestBoost_105 : decode cX11_bestBoost 105 = .ok (.istore_n 2, 1) := by decide +kernel
theorem dX11_bestBoost_106 : decode cX11_bestBoost 106 = .ok (.iload 8, 2) := by decide +kernel
theorem dX11_bestBoost_108 : decode cX11_bestBoost 108 = .ok (.ifCond .eq 10, 3) := by decide +kernel
theorem dX11_bestBoost_111 : decode cX11_bestBoost 111 = .ok (.aload_n 0, 1) := by decide +kernel
theorem dX11_bestBoost_112 : decode cX11_bestBoost 112 = .ok (.invokevirtual 194, 3) := by decide +kernel
theorem dX11_bestBoost_115 : decode cX11_bestBoost 115 = .ok (.goto 4, 3) := by decide +kernel
theorem dX11_bestBoost_118 : decode cX11_bestBoost 118 = .ok (.lload_n 3, 1) := by decide +kernel
theorem dX11_bestBoost_119 : decode cX11_bestBoost 119 = .ok (.lstore_n 3, 1) := by decide +kernel
theorem dX11_bestBoost_120 : decode cX11_bestBoost 120 = .ok (.iload 8, 2) := by decide +kernel
theorem dX11_bestBoost_122 : decode cX11_bestBoost 122 = .ok (.ifCond .eq 10, 3) := by decide +kernel
theorem dX11_bestBoost_125 : decode cX11_bestBoost 125 = .ok (.aload_n 0, 1) := by decide +kernel
theorem dX11_bestBoost_126 : decode cX11_bestBoost 126 = .ok (.invokevirtual 186, 3) := by decide +kernel
theorem dX11_bestBoost_129 : decode cX11_bestBoost 129 = .ok (.goto 5, 3) := by decide +kernel
theorem dX11_bestBoost_132 : decode cX11_bestBoost 132 = .ok (.lload 5, 2) := by decide +kernel
theorem dX11_bestBoost_134 : decode cX11_bestBoost 134 = .ok (.lstore 5, 2) := by decide +kernel
theorem dX11_bestBoost_136 : decode cX11_bestBoost 136 = .ok (.aload_n 0, 1) := by decide +kernel
theorem dX11_bestBoost_137 : decode cX11_bestBoost 137 = .ok (.invokevirtual 189, 3) := by decide +kernel
theorem dX11_bestBoost_140 : decode cX11_bestBoost 140 = .ok (.iinc 7 10, 3) := by decide +kernel
theorem dX11_bestBoost_143 : decode cX11_bestBoost 143 = .ok (.goto (-113), 3) := by decide +kernel
theorem dX11_bestBoost_146 : decode cX11_bestBoost 146 = .ok (.iload_n 2, 1) := by decide +kernel
theorem dX11_bestBoost_147 : decode cX11_bestBoost 147 = .ok (.ireturn, 1) := by decide +kernel
set_option maxRecDepth 20000 in
theorem ggX11_type_X11_in : GoodIn wsX11_type wsX11_in := goodIn_r _ [8] (by decide +kernel) (by decide +kernel)
set_option maxRecDepth 20000 in
theorem gX11_type_X11_in : GoodIn wsX11_type (va_wsS RX11 56 yX11_in wsX11_in) := goodIn_app (goodIn_of _ (by decide +kernel)) ggX11_type_X11_in
theorem dX11_type_0 : decode cX11_type 0 = .ok (.iload_n 1, 1) := by decide +kernel
theorem dX11_type_1 : decode cX11_type 1 = .ok (.i2l, 1) := by decide +kernel
theorem dX11_type_2 : decode cX11_type 2 = .ok (.ldc2_w 197, 3) := by decide +kernel
theorem dX11_type_5 : decode cX11_type 5 = .ok (.ldc2_w 199, 3) := by decide +kernel
theorem dX11_type_8 : decode cX11_type 8 = .ok (.invokestatic 56, 3) := by decide +kernel
theorem dX11_type_11 : decode cX11_type 11 = .ok (.ifCond .ne 5, 3) := by decide +kernel
theorem dX11_type_14 : decode cX11_type 14 = .ok (.iconst (-1), 1) := by decide +kernel
theorem dX11_type_15 : decode cX11_type 15 = .ok (.ireturn, 1) := by decide +kernel
theorem dX11_type_16 : decode cX11_type 16 = .ok (.aload_n 0, 1) := by decide +kernel
theorem dX11_type_17 : decode cX11_type 17 = .ok (.getfield 201, 3) := by decide +kernel
theorem dX11_type_20 : decode cX11_type 20 = .ok (.bipush 100, 2) := by decide +kernel
theorem dX11_type_22 : decode cX11_type 22 = .ok (.if_icmp .ne 6, 3) := by decide +kernel
theorem dX11_type_25 : decode cX11_type 25 = .ok (.bipush (-3), 2) := by decide +kernel
theorem dX11_type_27 : decode cX11_type 27 = .ok (.ireturn, 1) := by decide +kernel
theorem dX11_type_28 : decode cX11_type 28 = .ok (.aload_n 0, 1) := by decide +kernel
theorem dX11_type_29 : decode cX11_type 29 = .ok (.getfield 13, 3) := by decide +kernel
theorem dX11_type_32 : decode cX11_type 32 = .ok (.aload_n 0, 1) := by decide +kernel
theorem dX11_type_33 : decode cX11_type 33 = .ok (.getfield 201, 3) := by decide +kernel
theorem dX11_type_36 : decode cX11_type 36 = .ok (.iload_n 1, 1) := by decide +kernel
theorem dX11_type_37 : decode cX11_type 37 = .ok (.iastore, 1) := by decide +kernel
theorem dX11_type_38 : decode cX11_type 38 = .ok (.aload_n 0, 1) := by decide +kernel
theorem dX11_type_39 : decode cX11_type 39 = .ok (.dup, 1) := by decide +kernel
theorem dX11_type_40 : decode cX11_type 40 = .ok (.getfield 201, 3) := by decide +kernel
theorem dX11_type_43 : decode cX11_type 43 = .ok (.iconst 1, 1) := by decide +kernel
theorem dX11_type_44 : decode cX11_type 44 = .ok (.iadd, 1) := by decide +kernel
theorem dX11_type_45 : decode cX11_type 45 = .ok (.putfield 201, 3) := by decide +kernel
theorem dX11_type_48 : decode cX11_type 48 = .ok (.aload_n 0, 1) := by decide +kernel
theorem dX11_type_49 : decode cX11_type 49 = .ok (.getfield 201, 3) := by decide +kernel
theorem dX11_type_52 : decode cX11_type 52 = .ok (.ireturn, 1) := by decide +kernel
theorem dX11_clearText_0 : decode cX11_clearText 0 = .ok (.aload_n 0, 1) := by decide +kernel
theorem dX11_clearText_1 : decode cX11_clearText 1 = .ok (.getfield 201, 3) := by decide +kernel
theorem dX11_clearText_4 : decode cX11_clearText 4 = .ok (.istore_n 1, 1) := by decide +kernel
theorem dX11_clearText_5 : decode cX11_clearText 5 = .ok (.aload_n 0, 1) := by decide +kernel
theorem dX11_clearText_6 : decode cX11_clearText 6 = .ok (.iconst 0, 1) := by decide +kernel
theorem dX11_clearText_7 : decode cX11_clearText 7 = .ok (.putfield 201, 3) := by decide +kernel
theorem dX11_clearText_10 : decode cX11_clearText 10 = .ok (.iload_n 1, 1) := by decide +kernel
theorem dX11_clearText_11 : decode cX11_clearText 11 = .ok (.ireturn, 1) := by decide +kernel
theorem dX11_peek_0 : decode cX11_peek 0 = .ok (.aload_n 0, 1) := by decide +kernel
theorem dX11_peek_1 : decode cX11_peek 1 = .ok (.getfield 204, 3) := by decide +kernel
theorem dX11_peek_4 : decode cX11_peek 4 = .ok (.aload_n 0, 1) := by decide +kernel
theorem dX11_peek_5 : decode cX11_peek 5 = .ok (.getfield 201, 3) := by decide +kernel
theorem dX11_peek_8 : decode cX11_peek 8 = .ok (.if_icmp .ge 15, 3) := by decide +kernel
theorem dX11_peek_11 : decode cX11_peek 11 = .ok (.aload_n 0, 1) := by decide +kernel
theorem dX11_peek_12 : decode cX11_peek 12 = .ok (.getfield 13, 3) := by decide +kernel
theorem dX11_peek_15 : decode cX11_peek 15 = .ok (.aload_n 0, 1) := by decide +kernel
theorem dX11_peek_16 : decode cX11_peek 16 = .ok (.getfield 204, 3) := by decide +kernel
theorem dX11_peek_19 : decode cX11_peek 19 = .ok (.iaload, 1) := by decide +kernel
theorem dX11_peek_20 : decode cX11_peek 20 = .ok (.goto 4, 3) := by decide +kernel
theorem dX11_peek_23 : decode cX11_peek 23 = .ok (.iconst (-1), 1) := by decide +kernel
theorem dX11_peek_24 : decode cX11_peek 24 = .ok (.ireturn, 1) := by decide +kernel
set_option maxRecDepth 20000 in
theorem ggX11_isDigit_X11_peek : GoodIn wsX11_isDigit wsX11_peek := goodIn_r _ [5, 6, 7, 8, 12, 13, 14, 15, 16, 17, 18, 19, 20, 21] (by decide +kernel) (by decide +kernel)
set_option maxRecDepth 20000 in
theorem gX11_isDigit_X11_peek : GoodIn wsX11_isDigit (wsV RX11 207 RX11 yX11_peek wsX11_peek) := goodIn_app (goodIn_of _ (by decide +kernel)) ggX11_isDigit_X11_peek
set_option maxRecDepth 20000 in
theorem ggX11_isDigit_X11_in : GoodIn wsX11_isDigit wsX11_in := goodIn_r _ [11] (by decide +kernel) (by decide +kernel)
set_option maxRecDepth 20000 in
theorem gX11_isDigit_X11_in : GoodIn wsX11_isDigit (va_wsS RX11 56 yX11_in wsX11_in) := goodIn_app (goodIn_of _ (by decide +kernel)) ggX11_isDigit_X11_in
theorem dX11_isDigit_0 : decode cX11_isDigit 0 = .ok (.aload_n 0, 1) := by decide +kernel
theorem dX11_isDigit_1 : decode cX11_isDigit 1 = .ok (.invokevirtual 207, 3) := by decide +kernel
theorem dX11_isDigit_4 : decode cX11_isDigit 4 = .ok (.i2l, 1) := by decide +kernel
theorem dX11_isDigit_5 : decode cX11_isDigit 5 = .ok (.bipush 48, 2) := by decide +kernel
theorem dX11_isDigit_7 : decode cX11_isDigit 7 = .ok (.iload_n 1, 1) := by decide +kernel
theorem dX11_isDigit_8 : decode cX11_isDigit 8 = .ok (.iadd, 1) := by decide +kernel
theorem dX11_isDigit_9 : decode cX11_isDigit 9 = .ok (.i2l, 1) := by decide +kernel
theorem dX11_isDigit_10 : decode cX11_isDigit 10 = .ok (.bipush 48, 2) := by decide +kernel
theorem dX11_isDigit_12 : decode cX11_isDigit 12 = .ok (.iload_n 2, 1) := by decide +kernel
theorem dX11_isDigit_13 : decode cX11_isDigit 13 = .ok (.iadd, 1) := by decide +kernel
theorem dX11_isDigit_14 : decode cX11_isDigit 14 = .ok (.i2l, 1) := by decide +kernel
theorem dX11_isDigit_15 : decode cX11_isDigit 15 = .ok (.invokestatic 56, 3) := by decide +kernel
theorem dX11_isDigit_18 : decode cX11_isDigit 18 = .ok (.ireturn, 1) := by decide +kernel
set_option maxRecDepth 20000 in
theorem ggX11_takes_X11_peek : GoodIn wsX11_takes wsX11_peek := goodIn_r _ [6, 1, 7, 8, 9, 10, 11, 12, 13, 14, 15, 16, 17, 18] (by decide +kernel) (by decide +kernel)
set_option maxRecDepth 20000 in
theorem gX11_takes_X11_peek : GoodIn wsX11_takes (wsV RX11 207 RX11 yX11_peek wsX11_peek) := goodIn_app (goodIn_of _ (by decide +kernel)) ggX11_takes_X11_peek
theorem dX11_takes_0 : decode cX11_takes 0 = .ok (.aload_n 0, 1) := by decide +kernel
theorem dX11_takes_1 : decode cX11_takes 1 = .ok (.invokevirtual 207, 3) := by decide +kernel
theorem dX11_takes_4 : decode cX11_takes 4 = .ok (.iload_n 1, 1) := by decide +kernel
theorem dX11_takes_5 : decode cX11_takes 5 = .ok (.if_icmp .ne 7, 3) := by decide +kernel
theorem dX11_takes_8 : decode cX11_takes 8 = .ok (.iconst 1, 1) := by decide +kernel
theorem dX11_takes_9 : decode cX11_takes 9 = .ok (.goto 4, 3) := by decide +kernel
theorem dX11_takes_12 : decode cX11_takes 12 = .ok (.iconst 0, 1) := by decide +kernel
theorem dX11_takes_13 : decode cX11_takes 13 = .ok (.istore_n 2, 1) := by decide +kernel
theorem dX11_takes_14 : decode cX11_takes 14 = .ok (.aload_n 0, 1) := by decide +kernel
theorem dX11_takes_15 : decode cX11_takes 15 = .ok (.dup, 1) := by decide +kernel
theorem dX11_takes_16 : decode cX11_takes 16 = .ok (.getfield 204, 3) := by decide +kernel
theorem dX11_takes_19 : decode cX11_takes 19 = .ok (.iload_n 2, 1) := by decide +kernel
theorem dX11_takes_20 : decode cX11_takes 20 = .ok (.ifCond .eq 7, 3) := by decide +kernel
theorem dX11_takes_23 : decode cX11_takes 23 = .ok (.iconst 1, 1) := by decide +kernel
theorem dX11_takes_24 : decode cX11_takes 24 = .ok (.goto 4, 3) := by decide +kernel
theorem dX11_takes_27 : decode cX11_takes 27 = .ok (.iconst 0, 1) := by decide +kernel
theorem dX11_takes_28 : decode cX11_takes 28 = .ok (.iadd, 1) := by decide +kernel
theorem dX11_takes_29 : decode cX11_takes 29 = .ok (.putfield 204, 3) := by decide +kernel
theorem dX11_takes_32 : decode cX11_takes 32 = .ok (.iload_n 2, 1) := by decide +kernel
theorem dX11_takes_33 : decode cX11_takes 33 = .ok (.ireturn, 1) := by decide +kernel
set_option maxRecDepth 20000 in
theorem ggX11_takesHour_X11_isDigit : GoodIn wsX11_takesHour wsX11_isDigit := goodIn_r _ [7, 8, 9, 10, 6, 11, 2, 12, 13, 14, 15, 16, 17, 18, 19, 20, 21, 22, 23, 24, 25, 26] (by decide +kernel) (by decide +kernel)
set_option maxRecDepth 20000 in
theorem gX11_takesHour_X11_isDigit : GoodIn wsX11_takesHour (wsV RX11 210 RX11 yX11_isDigit wsX11_isDigit) := goodIn_app (goodIn_of _ (by decide +kernel)) ggX11_takesHour_X11_isDigit
set_option maxRecDepth 20000 in
theorem ggX11_takesHour_X11_peek : GoodIn wsX11_takesHour wsX11_peek := goodIn_r _ [11, 2, 12, 13, 17, 18, 19, 20, 21, 22, 23, 24, 25, 26] (by decide +kernel) (by decide +kernel)
set_option maxRecDepth 20000 in
theorem gX11_takesHour_X11_peek : GoodIn wsX11_takesHour (wsV RX11 207 RX11 yX11_peek wsX11_peek) := goodIn_app (goodIn_of _ (by decide +kernel)) ggX11_takesHour_X11_peek
theorem dX11_takesHour_0 : decode cX11_takesHour 0 = .ok (.aload_n 0, 1) := by decide +kernel
theorem dX11_takesHour_1 : decode cX11_takesHour 1 = .ok (.iconst 0, 1) := by decide +kernel
theorem dX11_takesHour_2 : decode cX11_takesHour 2 = .ok (.bipush 9, 2) := by decide +kernel
theorem dX11_takesHour_4 : decode cX11_takesHour 4 = .ok (.invokevirtual 210, 3) := by decide +kernel
theorem dX11_takesHour_7 : decode cX11_takesHour 7 = .ok (.ifCond .ne 5, 3) := by decide +kernel
theorem dX11_takesHour_10 : decode cX11_takesHour 10 = .ok (.iconst 0, 1) := by decide +kernel
theorem dX11_takesHour_11 : decode cX11_takesHour 11 = .ok (.ireturn, 1) := by decide +kernel
theorem dX11_takesHour_12 : decode cX11_takesHour 12 = .ok (.aload_n 0, 1) := by decide +kernel
theorem dX11_takesHour_13 : decode cX11_takesHour 13 = .ok (.aload_n 0, 1) := by decide +kernel
theorem dX11_takesHour_14 : decode cX11_takesHour 14 = .ok (.invokevirtual 207, 3) := by decide +kernel
theorem dX11_takesHour_17 : decode cX11_takesHour 17 = .ok (.bipush 48, 2) := by decide +kernel
theorem dX11_takesHour_19 : decode cX11_takesHour 19 = .ok (.isub, 1) := by decide +kernel
theorem dX11_takesHour_20 : decode cX11_takesHour 20 = .ok (.putfield 214, 3) := by decide +kernel
theorem dX11_takesHour_23 : decode cX11_takesHour 23 = .ok (.aload_n 0, 1) := by decide +kernel
theorem dX11_takesHour_24 : decode cX11_takesHour 24 = .ok (.dup, 1) := by decide +kernel
theorem dX11_takesHour_25 : decode cX11_takesHour 25 = .ok (.getfield 204, 3) := by decide +kernel
theorem dX11_takesHour_28 : decode cX11_takesHour 28 = .ok (.iconst 1, 1) := by decide +kernel
theorem dX11_takesHour_29 : decode cX11_takesHour 29 = .ok (.iadd, 1) := by decide +kernel
theorem dX11_takesHour_30 : decode cX11_takesHour 30 = .ok (.putfield 204, 3) := by decide +kernel
theorem dX11_takesHour_33 : decode cX11_takesHour 33 = .ok (.aload_n 0, 1) := by decide +kernel
theorem dX11_takesHour_34 : decode cX11_takesHour 34 = .ok (.getfield 214, 3) := by decide +kernel
theorem dX11_takesHour_37 : decode cX11_takesHour 37 = .ok (.iconst 1, 1) := by decide +kernel
theorem dX11_takesHour_38 : decode cX11_takesHour 38 = .ok (.if_icmp .ne 13, 3) := by decide +kernel
theorem dX11_takesHour_41 : decode cX11_takesHour 41 = .ok (.aload_n 0, 1) := by decide +kernel
theorem dX11_takesHour_42 : decode cX11_takesHour 42 = .ok (.iconst 0, 1) := by decide +kernel
theorem dX11_takesHour_43 : decode cX11_takesHour 43 = .ok (.bipush 9, 2) := by decide +kernel
theorem dX11_takesHour_45 : decode cX11_takesHour 45 = .ok (.invokevirtual 210, 3) := by decide +kernel
theorem dX11_takesHour_48 : decode cX11_takesHour 48 = .ok (.ifCond .ne 20, 3) := by decide +kernel
theorem dX11_takesHour_51 : decode cX11_takesHour 51 = .ok (.aload_n 0, 1) := by decide +kernel
theorem dX11_takesHour_52 : decode cX11_takesHour 52 = .ok (.getfield 214, 3) := by decide +kernel
theorem dX11_takesHour_55 : decode cX11_takesHour 55 = .ok (.iconst 2, 1) := by decide +kernel
theorem dX11_takesHour_56 : decode cX11_takesHour 56 = .ok (.if_icmp .ne 41, 3) := by decide +kernel
theorem dX11_takesHour_59 : decode cX11_takesHour 59 = .ok (.aload_n 0, 1) := by decide +kernel
theorem dX11_takesHour_60 : decode cX11_takesHour 60 = .ok (.iconst 0, 1) := by decide +kernel
theorem dX11_takesHour_61 : decode cX11_takesHour 61 = .ok (.iconst 3, 1) := by decide +kernel
theorem dX11_takesHour_62 : decode cX11_takesHour 62 = .ok (.invokevirtual 210, 3) := by decide +kernel
theorem dX11_takesHour_65 : decode cX11_takesHour 65 = .ok (.ifCond .eq 32, 3) := by decide +kernel
theorem dX11_takesHour_68 : decode cX11_takesHour 68 = .ok (.aload_n 0, 1) := by decide +kernel
theorem dX11_takesHour_69 : decode cX11_takesHour 69 = .ok (.bipush 10, 2) := by decide +kernel
theorem dX11_takesHour_71 : decode cX11_takesHour 71 = .ok (.aload_n 0, 1) := by decide +kernel
theorem dX11_takesHour_72 : decode cX11_takesHour 72 = .ok (.getfield 214, 3) := by decide +kernel
theorem dX11_takesHour_75 : decode cX11_takesHour 75 = .ok (.imul, 1) := by decide +kernel
theorem dX11_takesHour_76 : decode cX11_takesHour 76 = .ok (.aload_n 0, 1) := by decide +kernel
theorem dX11_takesHour_77 : decode cX11_takesHour 77 = .ok (.invokevirtual 207, 3) := by decide +kernel
theorem dX11_takesHour_80 : decode cX11_takesHour 80 = .ok (.iadd, 1) := by decide +kernel
theorem dX11_takesHour_81 : decode cX11_takesHour 81 = .ok (.bipush 48, 2) := by decide +kernel
theorem dX11_takesHour_83 : decode cX11_takesHour 83 = .ok (.isub, 1) := by decide +kernel
theorem dX11_takesHour_84 : decode cX11_takesHour 84 = .ok (.putfield 214, 3) := by decide +kernel
theorem dX11_takesHour_87 : decode cX11_takesHour 87 = .ok (.aload_n 0, 1) := by decide +kernel
theorem dX11_takesHour_88 : decode cX11_takesHour 88 = .ok (.dup, 1) := by decide +kernel
theorem dX11_takesHour_89 : decode cX11_takesHour 89 = .ok (.getfield 204, 3) := by decide +kernel
theorem dX11_takesHour_92 : decode cX11_takesHour 92 = .ok (.iconst 1, 1) := by decide +kernel
theorem dX11_takesHour_93 : decode cX11_takesHour 93 = .ok (.iadd, 1) := by decide +kernel
theorem dX11_takesHour_94 : decode cX11_takesHour 94 = .ok (.putfield 204, 3) := by decide +kernel
theorem dX11_takesHour_97 : decode cX11_takesHour 97 = .ok (.iconst 1, 1) := by decide +kernel
theorem dX11_takesHour_98 : decode cX11_takesHour 98 = .ok (.ireturn, 1) := by decide +kernel
set_option maxRecDepth 20000 in
theorem ggX11_takesDegrees_X11_takes : GoodIn wsX11_takesDegrees wsX11_takes := goodIn_r _ [8, 2, 9, 10, 11, 7, 12, 13, 14, 22, 23, 24, 25, 26, 27, 28, 29, 30, 31] (by decide +kernel) (by decide +kernel)
set_option maxRecDepth 20000 in
theorem gX11_takesDegrees_X11_takes : GoodIn wsX11_takesDegrees (wsV RX11 217 RX11 yX11_takes wsX11_takes) := goodIn_app (goodIn_of _ (by decide +kernel)) ggX11_takesDegrees_X11_takes
set_option maxRecDepth 20000 in
theorem ggX11_takesDegrees_X11_isDigit : GoodIn wsX11_takesDegrees wsX11_isDigit := goodIn_r _ [18, 9, 10, 11, 7, 12, 2, 13, 14, 19, 20, 21, 22, 23, 24, 25, 26, 27, 28, 29, 30, 31] (by decide +kernel) (by decide +kernel)
set_option maxRecDepth 20000 in
theorem gX11_takesDegrees_X11_isDigit : GoodIn wsX11_takesDegrees (wsV RX11 210 RX11 yX11_isDigit wsX11_isDigit) := goodIn_app (goodIn_of _ (by decide +kernel)) ggX11_takesDegrees_X11_isDigit
set_option maxRecDepth 20000 in
theorem ggX11_takesDegrees_X11_peek : GoodIn wsX11_takesDegrees wsX11_peek := goodIn_r _ [12, 2, 13, 14, 22, 23, 24, 25, 26, 27, 28, 29, 30, 31] (by decide +kernel) (by decide +kernel)
set_option maxRecDepth 20000 in
theorem gX11_takesDegrees_X11_peek : GoodIn wsX11_takesDegrees (wsV RX11 207 RX11 yX11_peek wsX11_peek) := goodIn_app (goodIn_of _ (by decide +kernel)) ggX11_takesDegrees_X11_peek
theorem dX11_takesDegrees_0 : decode cX11_takesDegrees 0 = .ok (.aload_n 0, 1) := by decide +kernel
theorem dX11_takesDegrees_1 : decode cX11_takesDegrees 1 = .ok (.bipush 45, 2) := by decide +kernel
theorem dX11_takesDegrees_3 : decode cX11_takesDegrees 3 = .ok (.invokevirtual 217, 3) := by decide +kernel
theorem dX11_takesDegrees_6 : decode cX11_takesDegrees 6 = .ok (.istore_n 1, 1) := by decide +kernel
theorem dX11_takesDegrees_7 : decode cX11_takesDegrees 7 = .ok (.aload_n 0, 1) := by decide +kernel
theorem dX11_takesDegrees_8 : decode cX11_takesDegrees 8 = .ok (.iconst 0, 1) := by decide +kernel
theorem dX11_takesDegrees_9 : decode cX11_takesDegrees 9 = .ok (.bipush 9, 2) := by decide +kernel
theorem dX11_takesDegrees_11 : decode cX11_takesDegrees 11 = .ok (.invokevirtual 210, 3) := by decide +kernel
theorem dX11_takesDegrees_14 : decode cX11_takesDegrees 14 = .ok (.ifCond .ne 5, 3) := by decide +kernel
theorem dX11_takesDegrees_17 : decode cX11_takesDegrees 17 = .ok (.iconst 0, 1) := by decide +kernel
theorem dX11_takesDegrees_18 : decode cX11_takesDegrees 18 = .ok (.ireturn, 1) := by decide +kernel
theorem dX11_takesDegrees_19 : decode cX11_takesDegrees 19 = .ok (.aload_n 0, 1) := by decide +kernel
theorem dX11_takesDegrees_20 : decode cX11_takesDegrees 20 = .ok (.aload_n 0, 1) := by decide +kernel
theorem dX11_takesDegrees_21 : decode cX11_takesDegrees 21 = .ok (.invokevirtual 207, 3) := by decide +kernel
theorem dX11_takesDegrees_24 : decode cX11_takesDegrees 24 = .ok (.bipush 48, 2) := by decide +kernel
theorem dX11_takesDegrees_26 : decode cX11_takesDegrees 26 = .ok (.isub, 1) := by decide +kernel
theorem dX11_takesDegrees_27 : decode cX11_takesDegrees 27 = .ok (.putfield 214, 3) := by decide +kernel
theorem dX11_takesDegrees_30 : decode cX11_takesDegrees 30 = .ok (.aload_n 0, 1) := by decide +kernel
theorem dX11_takesDegrees_31 : decode cX11_takesDegrees 31 = .ok (.dup, 1) := by decide +kernel
theorem dX11_takesDegrees_32 : decode cX11_takesDegrees 32 = .ok (.getfield 204, 3) := by decide +kernel
theorem dX11_takesDegrees_35 : decode cX11_takesDegrees 35 = .ok (.iconst 1, 1) := by decide +kernel
theorem dX11_takesDegrees_36 : decode cX11_takesDegrees 36 = .ok (.iadd, 1) := by decide +kernel
theorem dX11_takesDegrees_37 : decode cX11_takesDegrees 37 = .ok (.putfield 204, 3) := by decide +kernel
theorem dX11_takesDegrees_40 : decode cX11_takesDegrees 40 = .ok (.iconst 1, 1) := by decide +kernel
theorem dX11_takesDegrees_41 : decode cX11_takesDegrees 41 = .ok (.istore_n 2, 1) := by decide +kernel
theorem dX11_takesDegrees_42 : decode cX11_takesDegrees 42 = .ok (.iload_n 2, 1) := by decide +kernel
theorem dX11_takesDegrees_43 : decode cX11_takesDegrees 43 = .ok (.iconst 3, 1) := by decide +kernel
theorem dX11_takesDegrees_44 : decode cX11_takesDegrees 44 = .ok (.if_icmp .ge 55, 3) := by decide +kernel
theorem dX11_takesDegrees_47 : decode cX11_takesDegrees 47 = .ok (.aload_n 0, 1) := by decide +kernel
theorem dX11_takesDegrees_48 : decode cX11_takesDegrees 48 = .ok (.getfield 214, 3) := by decide +kernel
theorem dX11_takesDegrees_51 : decode cX11_takesDegrees 51 = .ok (.ifCond .le 48, 3) := by decide +kernel
theorem dX11_takesDegrees_54 : decode cX11_takesDegrees 54 = .ok (.aload_n 0, 1) := by decide +kernel
theorem dX11_takesDegrees_55 : decode cX11_takesDegrees 55 = .ok (.iconst 0, 1) := by decide +kernel
theorem dX11_takesDegrees_56 : decode cX11_takesDegrees 56 = .ok (.bipush 9, 2) := by decide +kernel
theorem dX11_takesDegrees_58 : decode cX11_takesDegrees 58 = .ok (.invokevirtual 210, 3) := by decide +kernel
theorem dX11_takesDegrees_61 : decode cX11_takesDegrees 61 = .ok (.ifCond .eq 38, 3) := by decide +kernel
theorem dX11_takesDegrees_64 : decode cX11_takesDegrees 64 = .ok (.aload_n 0, 1) := by decide +kernel
theorem dX11_takesDegrees_65 : decode cX11_takesDegrees 65 = .ok (.bipush 10, 2) := by decide +kernel
theorem dX11_takesDegrees_67 : decode cX11_takesDegrees 67 = .ok (.aload_n 0, 1) := by decide +kernel
theorem dX11_takesDegrees_68 : decode cX11_takesDegrees 68 = .ok (.getfield 214, 3) := by decide +kernel
theorem dX11_takesDegrees_71 : decode cX11_takesDegrees 71 = .ok (.imul, 1) := by decide +kernel
theorem dX11_takesDegrees_72 : decode cX11_takesDegrees 72 = .ok (.aload_n 0, 1) := by decide +kernel
theorem dX11_takesDegrees_73 : decode cX11_takesDegrees 73 = .ok (.invokevirtual 207, 3) := by decide +kernel
theorem dX11_takesDegrees_76 : decode cX11_takesDegrees 76 = .ok (.iadd, 1) := by decide +kernel
theorem dX11_takesDegrees_77 : decode cX11_takesDegrees 77 = .ok (.bipush 48, 2) := by decide +kernel
theorem dX11_takesDegrees_79 : decode cX11_takesDegrees 79 = .ok (.isub, 1) := by decide +kernel
theorem dX11_takesDegrees_80 : decode cX11_takesDegrees 80 = .ok (.putfield 214, 3) := by decide +kernel
theorem dX11_takesDegrees_83 : decode cX11_takesDegrees 83 = .ok (.aload_n 0, 1) := by decide +kernel
theorem dX11_takesDegrees_84 : decode cX11_takesDegrees 84 = .ok (.dup, 1) := by decide +kernel
theorem dX11_takesDegrees_85 : decode cX11_takesDegrees 85 = .ok (.getfield 204, 3) := by decide +kernel
theorem dX11_takesDegrees_88 : decode cX11_takesDegrees 88 = .ok (.iconst 1, 1) := by decide +kernel
theorem dX11_takesDegrees_89 : decode cX11_takesDegrees 89 = .ok (.iadd, 1) := by decide +kernel
theorem dX11_takesDegrees_90 : decode cX11_takesDegrees 90 = .ok (.putfield 204, 3) := by decide +kernel
theorem dX11_takesDegrees_93 : decode cX11_takesDegrees 93 = .ok (.iinc 2 1, 3) := by decide +kernel
theorem dX11_takesDegrees_96 : decode cX11_takesDegrees 96 = .ok (.goto (-54), 3) := by decide +kernel
theorem dX11_takesDegrees_99 : decode cX11_takesDegrees 99 = .ok (.aload_n 0, 1) := by decide +kernel
theorem dX11_takesDegrees_100 : decode cX11_takesDegrees 100 = .ok (.iload_n 1, 1) := by decide +kernel
theorem dX11_takesDegrees_101 : decode cX11_takesDegrees 101 = .ok (.ifCond .eq 11, 3) := by decide +kernel
theorem dX11_takesDegrees_104 : decode cX11_takesDegrees 104 = .ok (.aload_n 0, 1) := by decide +kernel
theorem dX11_takesDegrees_105 : decode cX11_takesDegrees 105 = .ok (.getfield 214, 3) := by decide +kernel
theorem dX11_takesDegrees_108 : decode cX11_takesDegrees 108 = .ok (.ineg, 1) := by decide +kernel
theorem dX11_takesDegrees_109 : decode cX11_takesDegrees 109 = .ok (.goto 7, 3) := by decide +kernel
theorem dX11_takesDegrees_112 : decode cX11_takesDegrees 112 = .ok (.aload_n 0, 1) := by decide +kernel
theorem dX11_takesDegrees_113 : decode cX11_takesDegrees 113 = .ok (.getfield 214, 3) := by decide +kernel
theorem dX11_takesDegrees_116 : decode cX11_takesDegrees 116 = .ok (.putfield 220, 3) := by decide +kernel
theorem dX11_takesDegrees_119 : decode cX11_takesDegrees 119 = .ok (.iconst 1, 1) := by decide +kernel
theorem dX11_takesDegrees_120 : decode cX11_takesDegrees 120 = .ok (.ireturn, 1) := by decide +kernel
set_option maxRecDepth 20000 in
theorem ggX11_takesEntry_X11_takesHour : GoodIn wsX11_takesEntry wsX11_takesHour := goodIn_r _ [9, 1, 10, 11, 12, 13, 8, 14, 15, 16, 17, 18, 19, 20, 21, 22, 23, 33, 34, 35, 36, 37, 38, 39, 40, 41, 42] (by decide +kernel) (by decide +kernel)
set_option maxRecDepth 20000 in
theorem gX11_takesEntry_X11_takesHour : GoodIn wsX11_takesEntry (wsV RX11 223 RX11 yX11_takesHour wsX11_takesHour) := goodIn_app (goodIn_of _ (by decide +kernel)) ggX11_takesEntry_X11_takesHour
set_option maxRecDepth 20000 in
theorem ggX11_takesEntry_X11_takes : GoodIn wsX11_takesEntry wsX11_takes := goodIn_r _ [27, 10, 15, 16, 17, 8, 18, 19, 20, 33, 34, 35, 36, 37, 38, 39, 40, 41, 42] (by decide +kernel) (by decide +kernel)
set_option maxRecDepth 20000 in
theorem gX11_takesEntry_X11_takes : GoodIn wsX11_takesEntry (wsV RX11 217 RX11 yX11_takes wsX11_takes) := goodIn_app (goodIn_of _ (by decide +kernel)) ggX11_takesEntry_X11_takes
set_option maxRecDepth 20000 in
theorem ggX11_takesEntry_X11_takesDegrees : GoodIn wsX11_takesEntry wsX11_takesDegrees := goodIn_r _ [31, 1, 10, 32, 24, 25, 26, 8, 27, 15, 16, 17, 18, 19, 20, 11, 12, 13, 14, 21, 22, 23, 33, 34, 35, 36, 37, 38, 39, 40, 41, 42] (by decide +kernel) (by decide +kernel)
set_option maxRecDepth 20000 in
theorem gX11_takesEntry_X11_takesDegrees : GoodIn wsX11_takesEntry (wsV RX11 233 RX11 yX11_takesDegrees wsX11_takesDegrees) := goodIn_app (goodIn_of _ (by decide +kernel)) ggX11_takesEntry_X11_takesDegrees
theorem dX11_takesEntry_0 : decode cX11_takesEntry 0 = .ok (.aload_n 0, 1) := by decide +kernel
theorem dX11_takesEntry_1 : decode cX11_takesEntry 1 = .ok (.invokevirtual 223, 3) := by decide +kernel
theorem dX11_takesEntry_4 : decode cX11_takesEntry 4 = .ok (.ifCond .ne 5, 3) := by decide +kernel
theorem dX11_takesEntry_7 : decode cX11_takesEntry 7 = .ok (.iconst 0, 1) := by decide +kernel
theorem dX11_takesEntry_8 : decode cX11_takesEntry 8 = .ok (.ireturn, 1) := by decide +kernel
theorem dX11_takesEntry_9 : decode cX11_takesEntry 9 = .ok (.aload_n 0, 1) := by decide +kernel
theorem dX11_takesEntry_10 : decode cX11_takesEntry 10 = .ok (.aload_n 0, 1) := by decide +kernel
theorem dX11_takesEntry_11 : decode cX11_takesEntry 11 = .ok (.getfield 214, 3) := by decide +kernel
theorem dX11_takesEntry_14 : decode cX11_takesEntry 14 = .ok (.putfield 227, 3) := by decide +kernel
theorem dX11_takesEntry_17 : decode cX11_takesEntry 17 = .ok (.aload_n 0, 1) := by decide +kernel
theorem dX11_takesEntry_18 : decode cX11_takesEntry 18 = .ok (.aload_n 0, 1) := by decide +kernel
theorem dX11_takesEntry_19 : decode cX11_takesEntry 19 = .ok (.getfield 214, 3) := by decide +kernel
theorem dX11_takesEntry_22 : decode cX11_takesEntry 22 = .ok (.putfield 230, 3) := by decide +kernel
theorem dX11_takesEntry_25 : decode cX11_takesEntry 25 = .ok (.aload_n 0, 1) := by decide +kernel
theorem dX11_takesEntry_26 : decode cX11_takesEntry 26 = .ok (.bipush 45, 2) := by decide +kernel
theorem dX11_takesEntry_28 : decode cX11_takesEntry 28 = .ok (.invokevirtual 217, 3) := by decide +kernel
theorem dX11_takesEntry_31 : decode cX11_takesEntry 31 = .ok (.ifCond .eq 20, 3) := by decide +kernel
theorem dX11_takesEntry_34 : decode cX11_takesEntry 34 = .ok (.aload_n 0, 1) := by decide +kernel
theorem dX11_takesEntry_35 : decode cX11_takesEntry 35 = .ok (.invokevirtual 223, 3) := by decide +kernel
theorem dX11_takesEntry_38 : decode cX11_takesEntry 38 = .ok (.ifCond .ne 5, 3) := by decide +kernel
theorem dX11_takesEntry_41 : decode cX11_takesEntry 41 = .ok (.iconst 0, 1) := by decide +kernel
theorem dX11_takesEntry_42 : decode cX11_takesEntry 42 = .ok (.ireturn, 1) := by decide +kernel
theorem dX11_takesEntry_43 : decode cX11_takesEntry 43 = .ok (.aload_n 0, 1) := by decide +kernel
theorem dX11_takesEntry_44 : decode cX11_takesEntry 44 = .ok (.aload_n 0, 1) := by decide +kernel
theorem dX11_takesEntry_45 : decode cX11_takesEntry 45 = .ok (.getfield 214, 3) := by decide +kernel
theorem dX11_takesEntry_48 : decode cX11_takesEntry 48 = .ok (.putfield 230, 3) := by decide +kernel
theorem dX11_takesEntry_51 : decode cX11_takesEntry 51 = .ok (.aload_n 0, 1) := by decide +kernel
theorem dX11_takesEntry_52 : decode cX11_takesEntry 52 = .ok (.bipush 58, 2) := by decide +kernel
theorem dX11_takesEntry_54 : decode cX11_takesEntry 54 = .ok (.invokevirtual 217, 3) := by decide +kernel
theorem dX11_takesEntry_57 : decode cX11_takesEntry 57 = .ok (.ifCond .eq 10, 3) := by decide +kernel
theorem dX11_takesEntry_60 : decode cX11_takesEntry 60 = .ok (.aload_n 0, 1) := by decide +kernel
theorem dX11_takesEntry_61 : decode cX11_takesEntry 61 = .ok (.invokevirtual 233, 3) := by decide +kernel
theorem dX11_takesEntry_64 : decode cX11_takesEntry 64 = .ok (.ifCond .ne 5, 3) := by decide +kernel
theorem dX11_takesEntry_67 : decode cX11_takesEntry 67 = .ok (.iconst 0, 1) := by decide +kernel
theorem dX11_takesEntry_68 : decode cX11_takesEntry 68 = .ok (.ireturn, 1) := by decide +kernel
theorem dX11_takesEntry_69 : decode cX11_takesEntry 69 = .ok (.aload_n 0, 1) := by decide +kernel
theorem dX11_takesEntry_70 : decode cX11_takesEntry 70 = .ok (.aload_n 0, 1) := by decide +kernel
theorem dX11_takesEntry_71 : decode cX11_takesEntry 71 = .ok (.bipush 99, 2) := by decide +kernel
theorem dX11_takesEntry_73 : decode cX11_takesEntry 73 = .ok (.invokevirtual 217, 3) := by decide +kernel
theorem dX11_takesEntry_76 : decode cX11_takesEntry 76 = .ok (.ifCond .eq 7, 3) := by decide +kernel
theorem dX11_takesEntry_79 : decode cX11_takesEntry 79 = .ok (.iconst 0, 1) := by decide +kernel
theorem dX11_takesEntry_80 : decode cX11_takesEntry 80 = .ok (.goto 30, 3) := by decide +kernel
theorem dX11_takesEntry_83 : decode cX11_takesEntry 83 = .ok (.aload_n 0, 1) := by decide +kernel
theorem dX11_takesEntry_84 : decode cX11_takesEntry 84 = .ok (.bipush 110, 2) := by decide +kernel
theorem dX11_takesEntry_86 : decode cX11_takesEntry 86 = .ok (.invokevirtual 217, 3) := by decide +kernel
theorem dX11_takesEntry_89 : decode cX11_takesEntry 89 = .ok (.ifCond .eq 7, 3) := by decide +kernel
theorem dX11_takesEntry_92 : decode cX11_takesEntry 92 = .ok (.iconst 1, 1) := by decide +kernel
theorem dX11_takesEntry_93 : decode cX11_takesEntry 93 = .ok (.goto 17, 3) := by decide +kernel
theorem dX11_takesEntry_96 : decode cX11_takesEntry 96 = .ok (.aload_n 0, 1) := by decide +kernel
theorem dX11_takesEntry_97 : decode cX11_takesEntry 97 = .ok (.bipush 112, 2) := by decide +kernel
theorem dX11_takesEntry_99 : decode cX11_takesEntry 99 = .ok (.invokevirtual 217, 3) := by decide +kernel
theorem dX11_takesEntry_102 : decode cX11_takesEntry 102 = .ok (.ifCond .eq 7, 3) := by decide +kernel
theorem dX11_takesEntry_105 : decode cX11_takesEntry 105 = .ok (.iconst 2, 1) := by decide +kernel
theorem dX11_takesEntry_106 : decode cX11_takesEntry 106 = .ok (.goto 4, 3) := by decide +kernel
theorem dX11_takesEntry_109 : decode cX11_takesEntry 109 = .ok (.iconst (-1), 1) := by decide +kernel
theorem dX11_takesEntry_110 : decode cX11_takesEntry 110 = .ok (.putfield 236, 3) := by decide +kernel
theorem dX11_takesEntry_113 : decode cX11_takesEntry 113 = .ok (.aload_n 0, 1) := by decide +kernel
theorem dX11_takesEntry_114 : decode cX11_takesEntry 114 = .ok (.bipush 59, 2) := by decide +kernel
theorem dX11_takesEntry_116 : decode cX11_takesEntry 116 = .ok (.invokevirtual 217, 3) := by decide +kernel
theorem dX11_takesEntry_119 : decode cX11_takesEntry 119 = .ok (.ireturn, 1) := by decide +kernel
set_option maxRecDepth 20000 in
theorem ggX11_loadWeather_X11_takesEntry : GoodIn wsX11_loadWeather wsX11_takesEntry := goodIn_r _ [14, 15, 7, 6, 9, 16, 17, 18, 13, 19, 1, 20, 21, 22, 23, 24, 25, 26, 27, 2, 28, 29, 30, 31, 32, 33, 34, 35, 36, 37, 38, 39, 3, 49, 50, 51, 52, 53, 54, 55, 56, 57, 58] (by decide +kernel) (by decide +kernel)
set_option maxRecDepth 20000 in
theorem gX11_loadWeather_X11_takesEntry : GoodIn wsX11_loadWeather (wsV RX11 239 RX11 yX11_takesEntry wsX11_takesEntry) := goodIn_app (goodIn_of _ (by decide +kernel)) ggX11_loadWeather_X11_takesEntry
set_option maxRecDepth 20000 in
theorem ggX11_loadWeather_X11_in : GoodIn wsX11_loadWeather wsX11_in := goodIn_r _ [31] (by decide +kernel) (by decide +kernel)
set_option maxRecDepth 20000 in
theorem gX11_loadWeather_X11_in : GoodIn wsX11_loadWeather (va_wsS RX11 56 yX11_in wsX11_in) := goodIn_app (goodIn_of _ (by decide +kernel)) ggX11_loadWeather_X11_in
set_option maxRecDepth 20000 in
theorem ggX11_loadWeather_X11_records : GoodIn wsX11_loadWeather wsX11_records := goodIn_r _ [43, 44, 45, 46, 47, 13, 48, 8, 49, 50, 51, 52, 53, 54, 55, 56, 57, 58] (by decide +kernel) (by decide +kernel)
set_option maxRecDepth 20000 in
theorem gX11_loadWeather_X11_records : GoodIn wsX11_loadWeather (wsV RX11 68 RX11 yX11_records wsX11_records) := goodIn_app (goodIn_of _ (by decide +kernel)) ggX11_loadWeather_X11_records
theorem dX11_loadWeather_0 : decode cX11_loadWeather 0 = .ok (.aload_n 0, 1) := by decide +kernel
theorem dX11_loadWeather_1 : decode cX11_loadWeather 1 = .ok (.iconst 0, 1) := by decide +kernel
theorem dX11_loadWeather_2 : decode cX11_loadWeather 2 = .ok (.putfield 204, 3) := by decide +kernel
theorem dX11_loadWeather_5 : decode cX11_loadWeather 5 = .ok (.iconst 0, 1) := by decide +kernel
theorem dX11_loadWeather_6 : decode cX11_loadWeather 6 = .ok (.istore_n 1, 1) := by decide +kernel
theorem dX11_loadWeather_7 : decode cX11_loadWeather 7 = .ok (.iconst 1, 1) := by decide +kernel
theorem dX11_loadWeather_8 : decode cX11_loadWeather 8 = .ok (.istore_n 2, 1) := by decide +kernel
theorem dX11_loadWeather_9 : decode cX11_loadWeather 9 = .ok (.aload_n 0, 1) := by decide +kernel
theorem dX11_loadWeather_10 : decode cX11_loadWeather 10 = .ok (.getfield 204, 3) := by decide +kernel
theorem dX11_loadWeather_13 : decode cX11_loadWeather 13 = .ok (.aload_n 0, 1) := by decide +kernel
theorem dX11_loadWeather_14 : decode cX11_loadWeather 14 = .ok (.getfield 201, 3) := by decide +kernel
theorem dX11_loadWeather_17 : decode cX11_loadWeather 17 = .ok (.if_icmp .ge 62, 3) := by decide +kernel
theorem dX11_loadWeather_20 : decode cX11_loadWeather 20 = .ok (.aload_n 0, 1) := by decide +kernel
theorem dX11_loadWeather_21 : decode cX11_loadWeather 21 = .ok (.invokevirtual 239, 3) := by decide +kernel
theorem dX11_loadWeather_24 : decode cX11_loadWeather 24 = .ok (.ifCond .ne 11, 3) := by decide +kernel
theorem dX11_loadWeather_27 : decode cX11_loadWeather 27 = .ok (.bipush (-10), 2) := by decide +kernel
theorem dX11_loadWeather_29 : decode cX11_loadWeather 29 = .ok (.aload_n 0, 1) := by decide +kernel
theorem dX11_loadWeather_30 : decode cX11_loadWeather 30 = .ok (.getfield 204, 3) := by decide +kernel
theorem dX11_loadWeather_33 : decode cX11_loadWeather 33 = .ok (.isub, 1) := by decide +kernel
theorem dX11_loadWeather_34 : decode cX11_loadWeather 34 = .ok (.ireturn, 1) := by decide +kernel
theorem dX11_loadWeather_35 : decode cX11_loadWeather 35 = .ok (.iload_n 2, 1) := by decide +kernel
theorem dX11_loadWeather_36 : decode cX11_loadWeather 36 = .ok (.ifCond .eq 35, 3) := by decide +kernel
theorem dX11_loadWeather_39 : decode cX11_loadWeather 39 = .ok (.aload_n 0, 1) := by decide +kernel
theorem dX11_loadWeather_40 : decode cX11_loadWeather 40 = .ok (.getfield 220, 3) := by decide +kernel
theorem dX11_loadWeather_43 : decode cX11_loadWeather 43 = .ok (.i2l, 1) := by decide +kernel
theorem dX11_loadWeather_44 : decode cX11_loadWeather 44 = .ok (.ldc2_w 80, 3) := by decide +kernel
theorem dX11_loadWeather_47 : decode cX11_loadWeather 47 = .ok (.ldc2_w 82, 3) := by decide +kernel
theorem dX11_loadWeather_50 : decode cX11_loadWeather 50 = .ok (.invokestatic 56, 3) := by decide +kernel
theorem dX11_loadWeather_53 : decode cX11_loadWeather 53 = .ok (.ifCond .eq 18, 3) := by decide +kernel
theorem dX11_loadWeather_56 : decode cX11_loadWeather 56 = .ok (.aload_n 0, 1) := by decide +kernel
theorem dX11_loadWeather_57 : decode cX11_loadWeather 57 = .ok (.getfield 230, 3) := by decide +kernel
theorem dX11_loadWeather_60 : decode cX11_loadWeather 60 = .ok (.aload_n 0, 1) := by decide +kernel
theorem dX11_loadWeather_61 : decode cX11_loadWeather 61 = .ok (.getfield 227, 3) := by decide +kernel
theorem dX11_loadWeather_64 : decode cX11_loadWeather 64 = .ok (.if_icmp .lt 7, 3) := by decide +kernel
theorem dX11_loadWeather_67 : decode cX11_loadWeather 67 = .ok (.iconst 1, 1) := by decide +kernel
theorem dX11_loadWeather_68 : decode cX11_loadWeather 68 = .ok (.goto 4, 3) := by decide +kernel
theorem dX11_loadWeather_71 : decode cX11_loadWeather 71 = .ok (.iconst 0, 1) := by decide +kernel
theorem dX11_loadWeather_72 : decode cX11_loadWeather 72 = .ok (.istore_n 2, 1) := by decide +kernel
theorem dX11_loadWeather_73 : decode cX11_loadWeather 73 = .ok (.iinc 1 1, 3) := by decide +kernel
theorem dX11_loadWeather_76 : decode cX11_loadWeather 76 = .ok (.goto (-67), 3) := by decide +kernel
theorem dX11_loadWeather_79 : decode cX11_loadWeather 79 = .ok (.iload_n 2, 1) := by decide +kernel
theorem dX11_loadWeather_80 : decode cX11_loadWeather 80 = .ok (.ifCond .ne 6, 3) := by decide +kernel
theorem dX11_loadWeather_83 : decode cX11_loadWeather 83 = .ok (.bipush (-2), 2) := by decide +kernel
theorem dX11_loadWeather_85 : decode cX11_loadWeather 85 = .ok (.ireturn, 1) := by decide +kernel
theorem dX11_loadWeather_86 : decode cX11_loadWeather 86 = .ok (.aload_n 0, 1) := by decide +kernel
theorem dX11_loadWeather_87 : decode cX11_loadWeather 87 = .ok (.invokevirtual 68, 3) := by decide +kernel
theorem dX11_loadWeather_90 : decode cX11_loadWeather 90 = .ok (.pop, 1) := by decide +kernel
theorem dX11_loadWeather_91 : decode cX11_loadWeather 91 = .ok (.aload_n 0, 1) := by decide +kernel
theorem dX11_loadWeather_92 : decode cX11_loadWeather 92 = .ok (.iconst 0, 1) := by decide +kernel
theorem dX11_loadWeather_93 : decode cX11_loadWeather 93 = .ok (.putfield 204, 3) := by decide +kernel
theorem dX11_loadWeather_96 : decode cX11_loadWeather 96 = .ok (.aload_n 0, 1) := by decide +kernel
theorem dX11_loadWeather_97 : decode cX11_loadWeather 97 = .ok (.getfield 204, 3) := by decide +kernel
theorem dX11_loadWeather_100 : decode cX11_loadWeather 100 = .ok (.aload_n 0, 1) := by decide +kernel
theorem dX11_loadWeather_101 : decode cX11_loadWeather 101 = .ok (.getfield 201, 3) := by decide +kernel
theorem dX11_loadWeather_104 : decode cX11_loadWeather 104 = .ok (.if_icmp .ge 77, 3) := by decide +kernel
theorem dX11_loadWeather_107 : decode cX11_loadWeather 107 = .ok (.aload_n 0, 1) := by decide +kernel
theorem dX11_loadWeather_108 : decode cX11_loadWeather 108 = .ok (.invokevirtual 239, 3) := by decide +kernel
theorem dX11_loadWeather_111 : decode cX11_loadWeather 111 = .ok (.pop, 1) := by decide +kernel
theorem dX11_loadWeather_112 : decode cX11_loadWeather 112 = .ok (.aload_n 0, 1) := by decide +kernel
theorem dX11_loadWeather_113 : decode cX11_loadWeather 113 = .ok (.getfield 227, 3) := by decide +kernel
theorem dX11_loadWeather_116 : decode cX11_loadWeather 116 = .ok (.istore_n 3, 1) := by decide +kernel
theorem dX11_loadWeather_117 : decode cX11_loadWeather 117 = .ok (.iload_n 3, 1) := by decide +kernel
theorem dX11_loadWeather_118 : decode cX11_loadWeather 118 = .ok (.aload_n 0, 1) := by decide +kernel
theorem dX11_loadWeather_119 : decode cX11_loadWeather 119 = .ok (.getfield 230, 3) := by decide +kernel
theorem dX11_loadWeather_122 : decode cX11_loadWeather 122 = .ok (.if_icmp .gt 56, 3) := by decide +kernel
theorem dX11_loadWeather_125 : decode cX11_loadWeather 125 = .ok (.aload_n 0, 1) := by decide +kernel
theorem dX11_loadWeather_126 : decode cX11_loadWeather 126 = .ok (.getfield 7, 3) := by decide +kernel
theorem dX11_loadWeather_129 : decode cX11_loadWeather 129 = .ok (.bipush 17, 2) := by decide +kernel
theorem dX11_loadWeather_131 : decode cX11_loadWeather 131 = .ok (.iload_n 3, 1) := by decide +kernel
theorem dX11_loadWeather_132 : decode cX11_loadWeather 132 = .ok (.iadd, 1) := by decide +kernel
theorem dX11_loadWeather_133 : decode cX11_loadWeather 133 = .ok (.aload_n 0, 1) := by decide +kernel
theorem dX11_loadWeather_134 : decode cX11_loadWeather 134 = .ok (.getfield 220, 3) := by decide +kernel
theorem dX11_loadWeather_137 : decode cX11_loadWeather 137 = .ok (.i2l, 1) := by decide +kernel
theorem dX11_loadWeather_138 : decode cX11_loadWeather 138 = .ok (.lastore, 1) := by decide +kernel
theorem dX11_loadWeather_139 : decode cX11_loadWeather 139 = .ok (.aload_n 0, 1) := by decide +kernel
theorem dX11_loadWeather_140 : decode cX11_loadWeather 140 = .ok (.getfield 7, 3) := by decide +kernel
theorem dX11_loadWeather_143 : decode cX11_loadWeather 143 = .ok (.bipush 41, 2) := by decide +kernel
theorem dX11_loadWeather_145 : decode cX11_loadWeather 145 = .ok (.iload_n 3, 1) := by decide +kernel
theorem dX11_loadWeather_146 : decode cX11_loadWeather 146 = .ok (.iadd, 1) := by decide +kernel
theorem dX11_loadWeather_147 : decode cX11_loadWeather 147 = .ok (.aload_n 0, 1) := by decide +kernel
theorem dX11_loadWeather_148 : decode cX11_loadWeather 148 = .ok (.getfield 236, 3) := by decide +kernel
theorem dX11_loadWeather_151 : decode cX11_loadWeather 151 = .ok (.ifCond .ge 15, 3) := by decide +kernel
theorem dX11_loadWeather_154 : decode cX11_loadWeather 154 = .ok (.aload_n 0, 1) := by decide +kernel
theorem dX11_loadWeather_155 : decode cX11_loadWeather 155 = .ok (.getfield 7, 3) := by decide +kernel
theorem dX11_loadWeather_158 : decode cX11_loadWeather 158 = .ok (.bipush 41, 2) := by decide +kernel
theorem dX11_loadWeather_160 : decode cX11_loadWeather 160 = .ok (.iload_n 3, 1) := by decide +kernel
theorem dX11_loadWeather_161 : decode cX11_loadWeather 161 = .ok (.iadd, 1) := by decide +kernel
theorem dX11_loadWeather_162 : decode cX11_loadWeather 162 = .ok (.laload, 1) := by decide +kernel
theorem dX11_loadWeather_163 : decode cX11_loadWeather 163 = .ok (.goto 8, 3) := by decide +kernel
theorem dX11_loadWeather_166 : decode cX11_loadWeather 166 = .ok (.aload_n 0, 1) := by decide +kernel
theorem dX11_loadWeather_167 : decode cX11_loadWeather 167 = .ok (.getfield 236, 3) := by decide +kernel
theorem dX11_loadWeather_170 : decode cX11_loadWeather 170 = .ok (.i2l, 1) := by decide +kernel
theorem dX11_loadWeather_171 : decode cX11_loadWeather 171 = .ok (.lastore, 1) := by decide +kernel
theorem dX11_loadWeather_172 : decode cX11_loadWeather 172 = .ok (.iinc 3 1, 3) := by decide +kernel
theorem dX11_loadWeather_175 : decode cX11_loadWeather 175 = .ok (.goto (-58), 3) := by decide +kernel
theorem dX11_loadWeather_178 : decode cX11_loadWeather 178 = .ok (.goto (-82), 3) := by decide +kernel
theorem dX11_loadWeather_181 : decode cX11_loadWeather 181 = .ok (.iload_n 1, 1) := by decide +kernel
theorem dX11_loadWeather_182 : decode cX11_loadWeather 182 = .ok (.ireturn, 1) := by decide +kernel
set_option maxRecDepth 20000 in
theorem ggX11_undo_X11_copies : GoodIn wsX11_undo wsX11_copies := goodIn_r _ [6, 7, 8, 9, 10, 11, 12, 13, 14, 15, 16, 17] (by decide +kernel) (by decide +kernel)
set_option maxRecDepth 20000 in
theorem gX11_undo_X11_copies : GoodIn wsX11_undo (wsV RX11 51 RX11 yX11_copies wsX11_copies) := goodIn_app (goodIn_of _ (by decide +kernel)) ggX11_undo_X11_copies
theorem dX11_undo_0 : decode cX11_undo 0 = .ok (.aload_n 0, 1) := by decide +kernel
theorem dX11_undo_1 : decode cX11_undo 1 = .ok (.getfield 47, 3) := by decide +kernel
theorem dX11_undo_4 : decode cX11_undo 4 = .ok (.ifCond .ne 6, 3) := by decide +kernel
theorem dX11_undo_7 : decode cX11_undo 7 = .ok (.bipush (-2), 2) := by decide +kernel
theorem dX11_undo_9 : decode cX11_undo 9 = .ok (.ireturn, 1) := by decide +kernel
theorem dX11_undo_10 : decode cX11_undo 10 = .ok (.aload_n 0, 1) := by decide +kernel
theorem dX11_undo_11 : decode cX11_undo 11 = .ok (.sipush 174, 3) := by decide +kernel
theorem dX11_undo_14 : decode cX11_undo 14 = .ok (.aload_n 0, 1) := by decide +kernel
theorem dX11_undo_15 : decode cX11_undo 15 = .ok (.getfield 47, 3) := by decide +kernel
theorem dX11_undo_18 : decode cX11_undo 18 = .ok (.imul, 1) := by decide +kernel
theorem dX11_undo_19 : decode cX11_undo 19 = .ok (.iconst 0, 1) := by decide +kernel
theorem dX11_undo_20 : decode cX11_undo 20 = .ok (.invokevirtual 51, 3) := by decide +kernel
theorem dX11_undo_23 : decode cX11_undo 23 = .ok (.aload_n 0, 1) := by decide +kernel
theorem dX11_undo_24 : decode cX11_undo 24 = .ok (.dup, 1) := by decide +kernel
theorem dX11_undo_25 : decode cX11_undo 25 = .ok (.getfield 47, 3) := by decide +kernel
theorem dX11_undo_28 : decode cX11_undo 28 = .ok (.iconst 1, 1) := by decide +kernel
theorem dX11_undo_29 : decode cX11_undo 29 = .ok (.isub, 1) := by decide +kernel
theorem dX11_undo_30 : decode cX11_undo 30 = .ok (.putfield 47, 3) := by decide +kernel
theorem dX11_undo_33 : decode cX11_undo 33 = .ok (.aload_n 0, 1) := by decide +kernel
theorem dX11_undo_34 : decode cX11_undo 34 = .ok (.getfield 47, 3) := by decide +kernel
theorem dX11_undo_37 : decode cX11_undo 37 = .ok (.ireturn, 1) := by decide +kernel
set_option maxRecDepth 20000 in
theorem ggX11_digest_X11_time : GoodIn wsX11_digest wsX11_time := goodIn_r _ [10, 3, 111, 112, 113, 114, 115, 116, 117, 118, 119, 120] (by decide +kernel) (by decide +kernel)
set_option maxRecDepth 20000 in
theorem gX11_digest_X11_time : GoodIn wsX11_digest (wsV RX11 244 RX11 yX11_time wsX11_time) := goodIn_app (goodIn_of _ (by decide +kernel)) ggX11_digest_X11_time
set_option maxRecDepth 20000 in
theorem ggX11_digest_X11_setting : GoodIn wsX11_digest wsX11_setting := goodIn_r _ [14, 15, 16, 17, 9, 18, 19, 20, 21, 22, 3, 111, 112, 113, 114, 115, 116, 117, 118, 119, 120] (by decide +kernel) (by decide +kernel)
set_option maxRecDepth 20000 in
theorem gX11_digest_X11_setting : GoodIn wsX11_digest (wsV RX11 249 RX11 yX11_setting wsX11_setting) := goodIn_app (goodIn_of _ (by decide +kernel)) ggX11_digest_X11_setting
set_option maxRecDepth 20000 in
theorem ggX11_digest_X11_outdoor : GoodIn wsX11_digest wsX11_outdoor := goodIn_r _ [26, 3, 27, 28, 9, 29, 30, 16, 17, 18, 111, 112, 113, 114, 115, 116, 117, 118, 119, 120] (by decide +kernel) (by decide +kernel)
set_option maxRecDepth 20000 in
theorem gX11_digest_X11_outdoor : GoodIn wsX11_digest (wsV RX11 252 RX11 yX11_outdoor wsX11_outdoor) := goodIn_app (goodIn_of _ (by decide +kernel)) ggX11_digest_X11_outdoor
set_option maxRecDepth 20000 in
theorem ggX11_digest_X11_tariff : GoodIn wsX11_digest wsX11_tariff := goodIn_r _ [34, 3, 27, 28, 9, 29, 30, 16, 17, 18, 111, 112, 113, 114, 115, 116, 117, 118, 119, 120] (by decide +kernel) (by decide +kernel)
set_option maxRecDepth 20000 in
theorem gX11_digest_X11_tariff : GoodIn wsX11_digest (wsV RX11 255 RX11 yX11_tariff wsX11_tariff) := goodIn_app (goodIn_of _ (by decide +kernel)) ggX11_digest_X11_tariff
set_option maxRecDepth 20000 in
theorem ggX11_digest_X11_demand : GoodIn wsX11_digest wsX11_demand := goodIn_r _ [38, 27, 28, 9, 29, 30, 16, 17, 18, 39, 40, 41, 42, 3, 43, 19, 20, 21, 22, 44, 45, 46, 111, 112, 113, 114, 115, 116, 117, 118, 119, 120] (by decide +kernel) (by decide +kernel)
set_option maxRecDepth 20000 in
theorem gX11_digest_X11_demand : GoodIn wsX11_digest (wsV RX11 257 RX11 yX11_demand wsX11_demand) := goodIn_app (goodIn_of _ (by decide +kernel)) ggX11_digest_X11_demand
set_option maxRecDepth 20000 in
theorem ggX11_digest_X11_target : GoodIn wsX11_digest wsX11_target := goodIn_r _ [50, 27, 28, 9, 29, 30, 16, 17, 18, 51, 52, 53, 54, 3, 55, 56, 57, 58, 44, 45, 46, 19, 20, 21, 22, 111, 112, 113, 114, 115, 116, 117, 118, 119, 120] (by decide +kernel) (by decide +kernel)
set_option maxRecDepth 20000 in
theorem gX11_digest_X11_target : GoodIn wsX11_digest (wsV RX11 260 RX11 yX11_target wsX11_target) := goodIn_app (goodIn_of _ (by decide +kernel)) ggX11_digest_X11_target
set_option maxRecDepth 20000 in
theorem ggX11_digest_X11_supply : GoodIn wsX11_digest wsX11_supply := goodIn_r _ [62, 63, 64, 16, 17, 9, 18, 55, 56, 57, 58, 3, 44, 45, 46, 111, 112, 113, 114, 115, 116, 117, 118, 119, 120] (by decide +kernel) (by decide +kernel)
set_option maxRecDepth 20000 in
theorem gX11_digest_X11_supply : GoodIn wsX11_digest (wsV RX11 263 RX11 yX11_supply wsX11_supply) := goodIn_app (goodIn_of _ (by decide +kernel)) ggX11_digest_X11_supply
set_option maxRecDepth 20000 in
theorem ggX11_digest_X11_temperature : GoodIn wsX11_digest wsX11_temperature := goodIn_r _ [68, 69, 16, 17, 9, 18, 70, 71, 72, 73, 3, 44, 45, 46, 111, 112, 113, 114, 115, 116, 117, 118, 119, 120] (by decide +kernel) (by decide +kernel)
set_option maxRecDepth 20000 in
theorem gX11_digest_X11_temperature : GoodIn wsX11_digest (wsV RX11 266 RX11 yX11_temperature wsX11_temperature) := goodIn_app (goodIn_of _ (by decide +kernel)) ggX11_digest_X11_temperature
set_option maxRecDepth 20000 in
theorem ggX11_digest_X11_stored : GoodIn wsX11_digest wsX11_stored := goodIn_r _ [77, 3, 111, 112, 113, 114, 115, 116, 117, 118, 119, 120] (by decide +kernel) (by decide +kernel)
set_option maxRecDepth 20000 in
theorem gX11_digest_X11_stored : GoodIn wsX11_digest (wsV RX11 269 RX11 yX11_stored wsX11_stored) := goodIn_app (goodIn_of _ (by decide +kernel)) ggX11_digest_X11_stored
set_option maxRecDepth 20000 in
theorem ggX11_digest_X11_pump : GoodIn wsX11_digest wsX11_pump := goodIn_r _ [81, 3, 111, 112, 113, 114, 115, 116, 117, 118, 119, 120] (by decide +kernel) (by decide +kernel)
set_option maxRecDepth 20000 in
theorem gX11_digest_X11_pump : GoodIn wsX11_digest (wsV RX11 272 RX11 yX11_pump wsX11_pump) := goodIn_app (goodIn_of _ (by decide +kernel)) ggX11_digest_X11_pump
set_option maxRecDepth 20000 in
theorem ggX11_digest_X11_reason : GoodIn wsX11_digest wsX11_reason := goodIn_r _ [85, 3, 111, 112, 113, 114, 115, 116, 117, 118, 119, 120] (by decide +kernel) (by decide +kernel)
set_option maxRecDepth 20000 in
theorem gX11_digest_X11_reason : GoodIn wsX11_digest (wsV RX11 275 RX11 yX11_reason wsX11_reason) := goodIn_app (goodIn_of _ (by decide +kernel)) ggX11_digest_X11_reason
set_option maxRecDepth 20000 in
theorem ggX11_digest_X11_minutesWith : GoodIn wsX11_digest wsX11_minutesWith := goodIn_r _ [89, 90, 3, 16, 17, 9, 18, 111, 112, 113, 114, 115, 116, 117, 118, 119, 120] (by decide +kernel) (by decide +kernel)
set_option maxRecDepth 20000 in
theorem gX11_digest_X11_minutesWith : GoodIn wsX11_digest (wsV RX11 278 RX11 yX11_minutesWith wsX11_minutesWith) := goodIn_app (goodIn_of _ (by decide +kernel)) ggX11_digest_X11_minutesWith
set_option maxRecDepth 20000 in
theorem ggX11_digest_X11_startsLastHour : GoodIn wsX11_digest wsX11_startsLastHour := goodIn_r _ [94, 95, 96, 97, 9, 98, 3, 111, 112, 113, 114, 115, 116, 117, 118, 119, 120] (by decide +kernel) (by decide +kernel)
set_option maxRecDepth 20000 in
theorem gX11_digest_X11_startsLastHour : GoodIn wsX11_digest (wsV RX11 281 RX11 yX11_startsLastHour wsX11_startsLastHour) := goodIn_app (goodIn_of _ (by decide +kernel)) ggX11_digest_X11_startsLastHour
set_option maxRecDepth 20000 in
theorem ggX11_digest_X11_starts : GoodIn wsX11_digest wsX11_starts := goodIn_r _ [102, 3, 111, 112, 113, 114, 115, 116, 117, 118, 119, 120] (by decide +kernel) (by decide +kernel)
set_option maxRecDepth 20000 in
theorem gX11_digest_X11_starts : GoodIn wsX11_digest (wsV RX11 284 RX11 yX11_starts wsX11_starts) := goodIn_app (goodIn_of _ (by decide +kernel)) ggX11_digest_X11_starts
set_option maxRecDepth 20000 in
theorem ggX11_digest_X11_defrosts : GoodIn wsX11_digest wsX11_defrosts := goodIn_r _ [106, 3, 111, 112, 113, 114, 115, 116, 117, 118, 119, 120] (by decide +kernel) (by decide +kernel)
set_option maxRecDepth 20000 in
theorem gX11_digest_X11_defrosts : GoodIn wsX11_digest (wsV RX11 287 RX11 yX11_defrosts wsX11_defrosts) := goodIn_app (goodIn_of _ (by decide +kernel)) ggX11_digest_X11_defrosts
set_option maxRecDepth 20000 in
theorem ggX11_digest_X11_frost : GoodIn wsX11_digest wsX11_frost := goodIn_r _ [110, 3, 111, 112, 113, 114, 115, 116, 117, 118, 119, 120] (by decide +kernel) (by decide +kernel)
set_option maxRecDepth 20000 in
theorem gX11_digest_X11_frost : GoodIn wsX11_digest (wsV RX11 290 RX11 yX11_frost wsX11_frost) := goodIn_app (goodIn_of _ (by decide +kernel)) ggX11_digest_X11_frost
theorem dX11_digest_0 : decode cX11_digest 0 = .ok (.ldc2_w 242, 3) := by decide +kernel
theorem dX11_digest_3 : decode cX11_digest 3 = .ok (.aload_n 0, 1) := by decide +kernel
theorem dX11_digest_4 : decode cX11_digest 4 = .ok (.invokevirtual 244, 3) := by decide +kernel
theorem dX11_digest_7 : decode cX11_digest 7 = .ok (.i2l, 1) := by decide +kernel
theorem dX11_digest_8 : decode cX11_digest 8 = .ok (.ladd, 1) := by decide +kernel
theorem dX11_digest_9 : decode cX11_digest 9 = .ok (.lstore_n 1, 1) := by decide +kernel
theorem dX11_digest_10 : decode cX11_digest 10 = .ok (.iconst 0, 1) := by decide +kernel
theorem dX11_digest_11 : decode cX11_digest 11 = .ok (.istore_n 3, 1) := by decide +kernel
theorem dX11_digest_12 : decode cX11_digest 12 = .ok (.iload_n 3, 1) := by decide +kernel
theorem dX11_digest_13 : decode cX11_digest 13 = .ok (.bipush 17, 2) := by decide +kernel
theorem dX11_digest_15 : decode cX11_digest 15 = .ok (.if_icmp .ge 22, 3) := by decide +kernel
theorem dX11_digest_18 : decode cX11_digest 18 = .ok (.ldc2_w 247, 3) := by decide +kernel
theorem dX11_digest_21 : decode cX11_digest 21 = .ok (.lload_n 1, 1) := by decide +kernel
theorem dX11_digest_22 : decode cX11_digest 22 = .ok (.lmul, 1) := by decide +kernel
theorem dX11_digest_23 : decode cX11_digest 23 = .ok (.aload_n 0, 1) := by decide +kernel
theorem dX11_digest_24 : decode cX11_digest 24 = .ok (.iload_n 3, 1) := by decide +kernel
theorem dX11_digest_25 : decode cX11_digest 25 = .ok (.invokevirtual 249, 3) := by decide +kernel
theorem dX11_digest_28 : decode cX11_digest 28 = .ok (.i2l, 1) := by decide +kernel
theorem dX11_digest_29 : decode cX11_digest 29 = .ok (.ladd, 1) := by decide +kernel
theorem dX11_digest_30 : decode cX11_digest 30 = .ok (.lstore_n 1, 1) := by decide +kernel
theorem dX11_digest_31 : decode cX11_digest 31 = .ok (.iinc 3 1, 3) := by decide +kernel
theorem dX11_digest_34 : decode cX11_digest 34 = .ok (.goto (-22), 3) := by decide +kernel
theorem dX11_digest_37 : decode cX11_digest 37 = .ok (.iconst 0, 1) := by decide +kernel
theorem dX11_digest_38 : decode cX11_digest 38 = .ok (.istore_n 3, 1) := by decide +kernel
theorem dX11_digest_39 : decode cX11_digest 39 = .ok (.iload_n 3, 1) := by decide +kernel
theorem dX11_digest_40 : decode cX11_digest 40 = .ok (.bipush 24, 2) := by decide +kernel
theorem dX11_digest_42 : decode cX11_digest 42 = .ok (.if_icmp .ge 61, 3) := by decide +kernel
theorem dX11_digest_45 : decode cX11_digest 45 = .ok (.ldc2_w 247, 3) := by decide +kernel
theorem dX11_digest_48 : decode cX11_digest 48 = .ok (.lload_n 1, 1) := by decide +kernel
theorem dX11_digest_49 : decode cX11_digest 49 = .ok (.lmul, 1) := by decide +kernel
theorem dX11_digest_50 : decode cX11_digest 50 = .ok (.aload_n 0, 1) := by decide +kernel
theorem dX11_digest_51 : decode cX11_digest 51 = .ok (.iload_n 3, 1) := by decide +kernel
theorem dX11_digest_52 : decode cX11_digest 52 = .ok (.invokevirtual 252, 3) := by decide +kernel
theorem dX11_digest_55 : decode cX11_digest 55 = .ok (.i2l, 1) := by decide +kernel
theorem dX11_digest_56 : decode cX11_digest 56 = .ok (.ladd, 1) := by decide +kernel
theorem dX11_digest_57 : decode cX11_digest 57 = .ok (.lstore_n 1, 1) := by decide +kernel
theorem dX11_digest_58 : decode cX11_digest 58 = .ok (.ldc2_w 247, 3) := by decide +kernel
theorem dX11_digest_61 : decode cX11_digest 61 = .ok (.lload_n 1, 1) := by decide +kernel
theorem dX11_digest_62 : decode cX11_digest 62 = .ok (.lmul, 1) := by decide +kernel
theorem dX11_digest_63 : decode cX11_digest 63 = .ok (.aload_n 0, 1) := by decide +kernel
theorem dX11_digest_64 : decode cX11_digest 64 = .ok (.iload_n 3, 1) := by decide +kernel
theorem dX11_digest_65 : decode cX11_digest 65 = .ok (.invokevirtual 255, 3) := by decide +kernel
theorem dX11_digest_68 : decode cX11_digest 68 = .ok (.i2l, 1) := by decide +kernel
theorem dX11_digest_69 : decode cX11_digest 69 = .ok (.ladd, 1) := by decide +kernel
theorem dX11_digest_70 : decode cX11_digest 70 = .ok (.lstore_n 1, 1) := by decide +kernel
theorem dX11_digest_71 : decode cX11_digest 71 = .ok (.ldc2_w 247, 3) := by decide +kernel
theorem dX11_digest_74 : decode cX11_digest 74 = .ok (.lload_n 1, 1) := by decide +kernel
theorem dX11_digest_75 : decode cX11_digest 75 = .ok (.lmul, 1) := by decide +kernel
theorem dX11_digest_76 : decode cX11_digest 76 = .ok (.aload_n 0, 1) := by decide +kernel
theorem dX11_digest_77 : decode cX11_digest 77 = .ok (.iload_n 3, 1) := by decide +kernel
theorem dX11_digest_78 : decode cX11_digest 78 = .ok (.invokevirtual 257, 3) := by decide +kernel
theorem dX11_digest_81 : decode cX11_digest 81 = .ok (.i2l, 1) := by decide +kernel
theorem dX11_digest_82 : decode cX11_digest 82 = .ok (.ladd, 1) := by decide +kernel
theorem dX11_digest_83 : decode cX11_digest 83 = .ok (.lstore_n 1, 1) := by decide +kernel
theorem dX11_digest_84 : decode cX11_digest 84 = .ok (.ldc2_w 247, 3) := by decide +kernel
theorem dX11_digest_87 : decode cX11_digest 87 = .ok (.lload_n 1, 1) := by decide +kernel
theorem dX11_digest_88 : decode cX11_digest 88 = .ok (.lmul, 1) := by decide +kernel
theorem dX11_digest_89 : decode cX11_digest 89 = .ok (.aload_n 0, 1) := by decide +kernel
theorem dX11_digest_90 : decode cX11_digest 90 = .ok (.iload_n 3, 1) := by decide +kernel
theorem dX11_digest_91 : decode cX11_digest 91 = .ok (.invokevirtual 260, 3) := by decide +kernel
theorem dX11_digest_94 : decode cX11_digest 94 = .ok (.i2l, 1) := by decide +kernel
theorem dX11_digest_95 : decode cX11_digest 95 = .ok (.ladd, 1) := by decide +kernel
theorem dX11_digest_96 : decode cX11_digest 96 = .ok (.lstore_n 1, 1) := by decide +kernel
theorem dX11_digest_97 : decode cX11_digest 97 = .ok (.iinc 3 1, 3) := by decide +kernel
theorem dX11_digest_100 : decode cX11_digest 100 = .ok (.goto (-61), 3) := by decide +kernel
theorem dX11_digest_103 : decode cX11_digest 103 = .ok (.sipush (-300), 3) := by decide +kernel
theorem dX11_digest_106 : decode cX11_digest 106 = .ok (.istore_n 3, 1) := by decide +kernel
theorem dX11_digest_107 : decode cX11_digest 107 = .ok (.iload_n 3, 1) := by decide +kernel
theorem dX11_digest_108 : decode cX11_digest 108 = .ok (.sipush 400, 3) := by decide +kernel
theorem dX11_digest_111 : decode cX11_digest 111 = .ok (.if_icmp .gt 22, 3) := by decide +kernel
theorem dX11_digest_114 : decode cX11_digest 114 = .ok (.ldc2_w 247, 3) := by decide +kernel
theorem dX11_digest_117 : decode cX11_digest 117 = .ok (.lload_n 1, 1) := by decide +kernel
theorem dX11_digest_118 : decode cX11_digest 118 = .ok (.lmul, 1) := by decide +kernel
theorem dX11_digest_119 : decode cX11_digest 119 = .ok (.aload_n 0, 1) := by decide +kernel
theorem dX11_digest_120 : decode cX11_digest 120 = .ok (.iload_n 3, 1) := by decide +kernel
theorem dX11_digest_121 : decode cX11_digest 121 = .ok (.invokevirtual 263, 3) := by decide +kernel
theorem dX11_digest_124 : decode cX11_digest 124 = .ok (.i2l, 1) := by decide +kernel
theorem dX11_digest_125 : decode cX11_digest 125 = .ok (.ladd, 1) := by decide +kernel
theorem dX11_digest_126 : decode cX11_digest 126 = .ok (.lstore_n 1, 1) := by decide +kernel
theorem dX11_digest_127 : decode cX11_digest 127 = .ok (.iinc 3 100, 3) := by decide +kernel
theorem dX11_digest_130 : decode cX11_digest 130 = .ok (.goto (-23), 3) := by decide +kernel
theorem dX11_digest_133 : decode cX11_digest 133 = .ok (.iconst 0, 1) := by decide +kernel
theorem dX11_digest_134 : decode cX11_digest 134 = .ok (.istore_n 3, 1) := by decide +kernel
theorem dX11_digest_135 : decode cX11_digest 135 = .ok (.iload_n 3, 1) := by decide +kernel
theorem dX11_digest_136 : decode cX11_digest 136 = .ok (.iconst 4, 1) := by decide +kernel
theorem dX11_digest_137 : decode cX11_digest 137 = .ok (.if_icmp .ge 22, 3) := by decide +kernel
theorem dX11_digest_140 : decode cX11_digest 140 = .ok (.ldc2_w 247, 3) := by decide +kernel
theorem dX11_digest_143 : decode cX11_digest 143 = .ok (.lload_n 1, 1) := by decide +kernel
theorem dX11_digest_144 : decode cX11_digest 144 = .ok (.lmul, 1) := by decide +kernel
theorem dX11_digest_145 : decode cX11_digest 145 = .ok (.aload_n 0, 1) := by decide +kernel
theorem dX11_digest_146 : decode cX11_digest 146 = .ok (.iload_n 3, 1) := by decide +kernel
theorem dX11_digest_147 : decode cX11_digest 147 = .ok (.invokevirtual 266, 3) := by decide +kernel
theorem dX11_digest_150 : decode cX11_digest 150 = .ok (.i2l, 1) := by decide +kernel
theorem dX11_digest_151 : decode cX11_digest 151 = .ok (.ladd, 1) := by decide +kernel
theorem dX11_digest_152 : decode cX11_digest 152 = .ok (.lstore_n 1, 1) := by decide +kernel
theorem dX11_digest_153 : decode cX11_digest 153 = .ok (.iinc 3 1, 3) := by decide +kernel
theorem dX11_digest_156 : decode cX11_digest 156 = .ok (.goto (-21), 3) := by decide +kernel
theorem dX11_digest_159 : decode cX11_digest 159 = .ok (.ldc2_w 247, 3) := by decide +kernel
theorem dX11_digest_162 : decode cX11_digest 162 = .ok (.lload_n 1, 1) := by decide +kernel
theorem dX11_digest_163 : decode cX11_digest 163 = .ok (.lmul, 1) := by decide +kernel
theorem dX11_digest_164 : decode cX11_digest 164 = .ok (.aload_n 0, 1) := by decide +kernel
theorem dX11_digest_165 : decode cX11_digest 165 = .ok (.invokevirtual 269, 3) := by decide +kernel
theorem dX11_digest_168 : decode cX11_digest 168 = .ok (.ladd, 1) := by decide +kernel
theorem dX11_digest_169 : decode cX11_digest 169 = .ok (.lstore_n 1, 1) := by decide +kernel
theorem dX11_digest_170 : decode cX11_digest 170 = .ok (.ldc2_w 247, 3) := by decide +kernel
theorem dX11_digest_173 : decode cX11_digest 173 = .ok (.lload_n 1, 1) := by decide +kernel
theorem dX11_digest_174 : decode cX11_digest 174 = .ok (.lmul, 1) := by decide +kernel
theorem dX11_digest_175 : decode cX11_digest 175 = .ok (.aload_n 0, 1) := by decide +kernel
theorem dX11_digest_176 : decode cX11_digest 176 = .ok (.invokevirtual 272, 3) := by decide +kernel
theorem dX11_digest_179 : decode cX11_digest 179 = .ok (.i2l, 1) := by decide +kernel
theorem dX11_digest_180 : decode cX11_digest 180 = .ok (.ladd, 1) := by decide +kernel
theorem dX11_digest_181 : decode cX11_digest 181 = .ok (.lstore_n 1, 1) := by decide +kernel
theorem dX11_digest_182 : decode cX11_digest 182 = .ok (.ldc2_w 247, 3) := by decide +kernel
theorem dX11_digest_185 : decode cX11_digest 185 = .ok (.lload_n 1, 1) := by decide +kernel
theorem dX11_digest_186 : decode cX11_digest 186 = .ok (.lmul, 1) := by decide +kernel
theorem dX11_digest_187 : decode cX11_digest 187 = .ok (.aload_n 0, 1) := by decide +kernel
theorem dX11_digest_188 : decode cX11_digest 188 = .ok (.invokevirtual 275, 3) := by decide +kernel
theorem dX11_digest_191 : decode cX11_digest 191 = .ok (.i2l, 1) := by decide +kernel
theorem dX11_digest_192 : decode cX11_digest 192 = .ok (.ladd, 1) := by decide +kernel
theorem dX11_digest_193 : decode cX11_digest 193 = .ok (.lstore_n 1, 1) := by decide +kernel
theorem dX11_digest_194 : decode cX11_digest 194 = .ok (.iconst 0, 1) := by decide +kernel
theorem dX11_digest_195 : decode cX11_digest 195 = .ok (.istore_n 3, 1) := by decide +kernel
theorem dX11_digest_196 : decode cX11_digest 196 = .ok (.iload_n 3, 1) := by decide +kernel
theorem dX11_digest_197 : decode cX11_digest 197 = .ok (.bipush 12, 2) := by decide +kernel
theorem dX11_digest_199 : decode cX11_digest 199 = .ok (.if_icmp .ge 22, 3) := by decide +kernel
theorem dX11_digest_202 : decode cX11_digest 202 = .ok (.ldc2_w 247, 3) := by decide +kernel
theorem dX11_digest_205 : decode cX11_digest 205 = .ok (.lload_n 1, 1) := by decide +kernel
theorem dX11_digest_206 : decode cX11_digest 206 = .ok (.lmul, 1) := by decide +kernel
theorem dX11_digest_207 : decode cX11_digest 207 = .ok (.aload_n 0, 1) := by decide +kernel
theorem dX11_digest_208 : decode cX11_digest 208 = .ok (.iload_n 3, 1) := by decide +kernel
theorem dX11_digest_209 : decode cX11_digest 209 = .ok (.invokevirtual 278, 3) := by decide +kernel
theorem dX11_digest_212 : decode cX11_digest 212 = .ok (.i2l, 1) := by decide +kernel
theorem dX11_digest_213 : decode cX11_digest 213 = .ok (.ladd, 1) := by decide +kernel
theorem dX11_digest_214 : decode cX11_digest 214 = .ok (.lstore_n 1, 1) := by decide +kernel
theorem dX11_digest_215 : decode cX11_digest 215 = .ok (.iinc 3 1, 3) := by decide +kernel
theorem dX11_digest_218 : decode cX11_digest 218 = .ok (.goto (-22), 3) := by decide +kernel
theorem dX11_digest_221 : decode cX11_digest 221 = .ok (.ldc2_w 247, 3) := by decide +kernel
theorem dX11_digest_224 : decode cX11_digest 224 = .ok (.lload_n 1, 1) := by decide +kernel
theorem dX11_digest_225 : decode cX11_digest 225 = .ok (.lmul, 1) := by decide +kernel
theorem dX11_digest_226 : decode cX11_digest 226 = .ok (.aload_n 0, 1) := by decide +kernel
theorem dX11_digest_227 : decode cX11_digest 227 = .ok (.invokevirtual 281, 3) := by decide +kernel
theorem dX11_digest_230 : decode cX11_digest 230 = .ok (.i2l, 1) := by decide +kernel
theorem dX11_digest_231 : decode cX11_digest 231 = .ok (.ladd, 1) := by decide +kernel
theorem dX11_digest_232 : decode cX11_digest 232 = .ok (.lstore_n 1, 1) := by decide +kernel
theorem dX11_digest_233 : decode cX11_digest 233 = .ok (.ldc2_w 247, 3) := by decide +kernel
theorem dX11_digest_236 : decode cX11_digest 236 = .ok (.lload_n 1, 1) := by decide +kernel
theorem dX11_digest_237 : decode cX11_digest 237 = .ok (.lmul, 1) := by decide +kernel
theorem dX11_digest_238 : decode cX11_digest 238 = .ok (.aload_n 0, 1) := by decide +kernel
theorem dX11_digest_239 : decode cX11_digest 239 = .ok (.invokevirtual 284, 3) := by decide +kernel
theorem dX11_digest_242 : decode cX11_digest 242 = .ok (.i2l, 1) := by decide +kernel
theorem dX11_digest_243 : decode cX11_digest 243 = .ok (.ladd, 1) := by decide +kernel
theorem dX11_digest_244 : decode cX11_digest 244 = .ok (.lstore_n 1, 1) := by decide +kernel
theorem dX11_digest_245 : decode cX11_digest 245 = .ok (.ldc2_w 247, 3) := by decide +kernel
theorem dX11_digest_248 : decode cX11_digest 248 = .ok (.lload_n 1, 1) := by decide +kernel
theorem dX11_digest_249 : decode cX11_digest 249 = .ok (.lmul, 1) := by decide +kernel
theorem dX11_digest_250 : decode cX11_digest 250 = .ok (.aload_n 0, 1) := by decide +kernel
theorem dX11_digest_251 : decode cX11_digest 251 = .ok (.invokevirtual 287, 3) := by decide +kernel
theorem dX11_digest_254 : decode cX11_digest 254 = .ok (.i2l, 1) := by decide +kernel
theorem dX11_digest_255 : decode cX11_digest 255 = .ok (.ladd, 1) := by decide +kernel
theorem dX11_digest_256 : decode cX11_digest 256 = .ok (.lstore_n 1, 1) := by decide +kernel
theorem dX11_digest_257 : decode cX11_digest 257 = .ok (.ldc2_w 247, 3) := by decide +kernel
theorem dX11_digest_260 : decode cX11_digest 260 = .ok (.lload_n 1, 1) := by decide +kernel
theorem dX11_digest_261 : decode cX11_digest 261 = .ok (.lmul, 1) := by decide +kernel
theorem dX11_digest_262 : decode cX11_digest 262 = .ok (.aload_n 0, 1) := by decide +kernel
theorem dX11_digest_263 : decode cX11_digest 263 = .ok (.invokevirtual 290, 3) := by decide +kernel
theorem dX11_digest_266 : decode cX11_digest 266 = .ok (.i2l, 1) := by decide +kernel
theorem dX11_digest_267 : decode cX11_digest 267 = .ok (.ladd, 1) := by decide +kernel
theorem dX11_digest_268 : decode cX11_digest 268 = .ok (.lstore_n 1, 1) := by decide +kernel
theorem dX11_digest_269 : decode cX11_digest 269 = .ok (.iconst 0, 1) := by decide +kernel
theorem dX11_digest_270 : decode cX11_digest 270 = .ok (.istore_n 3, 1) := by decide +kernel
theorem dX11_digest_271 : decode cX11_digest 271 = .ok (.iload_n 3, 1) := by decide +kernel
theorem dX11_digest_272 : decode cX11_digest 272 = .ok (.bipush 7, 2) := by decide +kernel
theorem dX11_digest_274 : decode cX11_digest 274 = .ok (.if_icmp .ge 25, 3) := by decide +kernel
theorem dX11_digest_277 : decode cX11_digest 277 = .ok (.ldc2_w 247, 3) := by decide +kernel
theorem dX11_digest_280 : decode cX11_digest 280 = .ok (.lload_n 1, 1) := by decide +kernel
theorem dX11_digest_281 : decode cX11_digest 281 = .ok (.lmul, 1) := by decide +kernel
theorem dX11_digest_282 : decode cX11_digest 282 = .ok (.aload_n 0, 1) := by decide +kernel
theorem dX11_digest_283 : decode cX11_digest 283 = .ok (.getfield 7, 3) := by decide +kernel
theorem dX11_digest_286 : decode cX11_digest 286 = .ok (.bipush 107, 2) := by decide +kernel
theorem dX11_digest_288 : decode cX11_digest 288 = .ok (.iload_n 3, 1) := by decide +kernel
theorem dX11_digest_289 : decode cX11_digest 289 = .ok (.iadd, 1) := by decide +kernel
theorem dX11_digest_290 : decode cX11_digest 290 = .ok (.laload, 1) := by decide +kernel
theorem dX11_digest_291 : decode cX11_digest 291 = .ok (.ladd, 1) := by decide +kernel
theorem dX11_digest_292 : decode cX11_digest 292 = .ok (.lstore_n 1, 1) := by decide +kernel
theorem dX11_digest_293 : decode cX11_digest 293 = .ok (.iinc 3 1, 3) := by decide +kernel
theorem dX11_digest_296 : decode cX11_digest 296 = .ok (.goto (-25), 3) := by decide +kernel
theorem dX11_digest_299 : decode cX11_digest 299 = .ok (.ldc2_w 247, 3) := by decide +kernel
theorem dX11_digest_302 : decode cX11_digest 302 = .ok (.lload_n 1, 1) := by decide +kernel
theorem dX11_digest_303 : decode cX11_digest 303 = .ok (.lmul, 1) := by decide +kernel
theorem dX11_digest_304 : decode cX11_digest 304 = .ok (.aload_n 0, 1) := by decide +kernel
theorem dX11_digest_305 : decode cX11_digest 305 = .ok (.getfield 201, 3) := by decide +kernel
theorem dX11_digest_308 : decode cX11_digest 308 = .ok (.i2l, 1) := by decide +kernel
theorem dX11_digest_309 : decode cX11_digest 309 = .ok (.ladd, 1) := by decide +kernel
theorem dX11_digest_310 : decode cX11_digest 310 = .ok (.lstore_n 1, 1) := by decide +kernel
theorem dX11_digest_311 : decode cX11_digest 311 = .ok (.ldc2_w 247, 3) := by decide +kernel
theorem dX11_digest_314 : decode cX11_digest 314 = .ok (.lload_n 1, 1) := by decide +kernel
theorem dX11_digest_315 : decode cX11_digest 315 = .ok (.lmul, 1) := by decide +kernel
theorem dX11_digest_316 : decode cX11_digest 316 = .ok (.aload_n 0, 1) := by decide +kernel
theorem dX11_digest_317 : decode cX11_digest 317 = .ok (.getfield 47, 3) := by decide +kernel
theorem dX11_digest_320 : decode cX11_digest 320 = .ok (.i2l, 1) := by decide +kernel
theorem dX11_digest_321 : decode cX11_digest 321 = .ok (.ladd, 1) := by decide +kernel
theorem dX11_digest_322 : decode cX11_digest 322 = .ok (.lreturn, 1) := by decide +kernel
