theorem dX12_rules_45 : decode cX12_rules 45 = .ok (.aload_n 0, 1) := by decide +kernel
theorem dX12_rules_46 : decode cX12_rules 46 = .ok (.invokevirtual 37, 3) := by decide +kernel
theorem dX12_rules_49 : decode cX12_rules 49 = .ok (.aload_n 0, 1) := by decide +kernel
theorem dX12_rules_50 : decode cX12_rules 50 = .ok (.iconst 4, 1) := by decide +kernel
theorem dX12_rules_51 : decode cX12_rules 51 = .ok (.invokevirtual 27, 3) := by decide +kernel
theorem dX12_rules_54 : decode cX12_rules 54 = .ok (.if_icmp .ne 21, 3) := by decide +kernel
theorem dX12_rules_57 : decode cX12_rules 57 = .ok (.aload_n 0, 1) := by decide +kernel
theorem dX12_rules_58 : decode cX12_rules 58 = .ok (.invokevirtual 40, 3) := by decide +kernel
theorem dX12_rules_61 : decode cX12_rules 61 = .ok (.aload_n 0, 1) := by decide +kernel
theorem dX12_rules_62 : decode cX12_rules 62 = .ok (.invokevirtual 34, 3) := by decide +kernel
theorem dX12_rules_65 : decode cX12_rules 65 = .ok (.if_icmp .gt 10, 3) := by decide +kernel
theorem dX12_rules_68 : decode cX12_rules 68 = .ok (.aload_n 0, 1) := by decide +kernel
theorem dX12_rules_69 : decode cX12_rules 69 = .ok (.invokevirtual 40, 3) := by decide +kernel
theorem dX12_rules_72 : decode cX12_rules 72 = .ok (.ifCond .ge 5, 3) := by decide +kernel
theorem dX12_rules_75 : decode cX12_rules 75 = .ok (.iconst 0, 1) := by decide +kernel
theorem dX12_rules_76 : decode cX12_rules 76 = .ok (.ireturn, 1) := by decide +kernel
theorem dX12_rules_77 : decode cX12_rules 77 = .ok (.aload_n 0, 1) := by decide +kernel
theorem dX12_rules_78 : decode cX12_rules 78 = .ok (.invokevirtual 30, 3) := by decide +kernel
theorem dX12_rules_81 : decode cX12_rules 81 = .ok (.ifCond .ne 16, 3) := by decide +kernel
theorem dX12_rules_84 : decode cX12_rules 84 = .ok (.aload_n 0, 1) := by decide +kernel
theorem dX12_rules_85 : decode cX12_rules 85 = .ok (.invokevirtual 43, 3) := by decide +kernel
theorem dX12_rules_88 : decode cX12_rules 88 = .ok (.sipush (-9999), 3) := by decide +kernel
theorem dX12_rules_91 : decode cX12_rules 91 = .ok (.if_icmp .eq 24, 3) := by decide +kernel
theorem dX12_rules_94 : decode cX12_rules 94 = .ok (.goto 19, 3) := by decide +kernel
theorem dX12_rules_97 : decode cX12_rules 97 = .ok (.aload_n 0, 1) := by decide +kernel
theorem dX12_rules_98 : decode cX12_rules 98 = .ok (.invokevirtual 43, 3) := by decide +kernel
theorem dX12_rules_101 : decode cX12_rules 101 = .ok (.ifCond .lt 12, 3) := by decide +kernel
theorem dX12_rules_104 : decode cX12_rules 104 = .ok (.aload_n 0, 1) := by decide +kernel
theorem dX12_rules_105 : decode cX12_rules 105 = .ok (.invokevirtual 43, 3) := by decide +kernel
theorem dX12_rules_108 : decode cX12_rules 108 = .ok (.bipush 11, 2) := by decide +kernel
theorem dX12_rules_110 : decode cX12_rules 110 = .ok (.if_icmp .le 5, 3) := by decide +kernel
theorem dX12_rules_113 : decode cX12_rules 113 = .ok (.iconst 0, 1) := by decide +kernel
theorem dX12_rules_114 : decode cX12_rules 114 = .ok (.ireturn, 1) := by decide +kernel
theorem dX12_rules_115 : decode cX12_rules 115 = .ok (.aload_n 0, 1) := by decide +kernel
theorem dX12_rules_116 : decode cX12_rules 116 = .ok (.invokevirtual 46, 3) := by decide +kernel
theorem dX12_rules_119 : decode cX12_rules 119 = .ok (.ifCond .ne 7, 3) := by decide +kernel
theorem dX12_rules_122 : decode cX12_rules 122 = .ok (.iconst 1, 1) := by decide +kernel
theorem dX12_rules_123 : decode cX12_rules 123 = .ok (.goto 4, 3) := by decide +kernel
theorem dX12_rules_126 : decode cX12_rules 126 = .ok (.iconst 0, 1) := by decide +kernel
theorem dX12_rules_127 : decode cX12_rules 127 = .ok (.istore_n 2, 1) := by decide +kernel
theorem dX12_rules_128 : decode cX12_rules 128 = .ok (.aload_n 0, 1) := by decide +kernel
theorem dX12_rules_129 : decode cX12_rules 129 = .ok (.invokevirtual 30, 3) := by decide +kernel
theorem dX12_rules_132 : decode cX12_rules 132 = .ok (.ifCond .le 45, 3) := by decide +kernel
theorem dX12_rules_135 : decode cX12_rules 135 = .ok (.iload_n 2, 1) := by decide +kernel
theorem dX12_rules_136 : decode cX12_rules 136 = .ok (.aload_n 0, 1) := by decide +kernel
theorem dX12_rules_137 : decode cX12_rules 137 = .ok (.invokevirtual 43, 3) := by decide +kernel
theorem dX12_rules_140 : decode cX12_rules 140 = .ok (.iconst 1, 1) := by decide +kernel
theorem dX12_rules_141 : decode cX12_rules 141 = .ok (.if_icmp .eq 28, 3) := by decide +kernel
theorem dX12_rules_144 : decode cX12_rules 144 = .ok (.aload_n 0, 1) := by decide +kernel
theorem dX12_rules_145 : decode cX12_rules 145 = .ok (.invokevirtual 43, 3) := by decide +kernel
theorem dX12_rules_148 : decode cX12_rules 148 = .ok (.iconst 3, 1) := by decide +kernel
theorem dX12_rules_149 : decode cX12_rules 149 = .ok (.if_icmp .eq 20, 3) := by decide +kernel
theorem dX12_rules_152 : decode cX12_rules 152 = .ok (.aload_n 0, 1) := by decide +kernel
theorem dX12_rules_153 : decode cX12_rules 153 = .ok (.invokevirtual 43, 3) := by decide +kernel
theorem dX12_rules_156 : decode cX12_rules 156 = .ok (.iconst 5, 1) := by decide +kernel
theorem dX12_rules_157 : decode cX12_rules 157 = .ok (.if_icmp .le 16, 3) := by decide +kernel
theorem dX12_rules_160 : decode cX12_rules 160 = .ok (.aload_n 0, 1) := by decide +kernel
theorem dX12_rules_161 : decode cX12_rules 161 = .ok (.invokevirtual 43, 3) := by decide +kernel
theorem dX12_rules_164 : decode cX12_rules 164 = .ok (.bipush 11, 2) := by decide +kernel
theorem dX12_rules_166 : decode cX12_rules 166 = .ok (.if_icmp .ge 7, 3) := by decide +kernel
theorem dX12_rules_169 : decode cX12_rules 169 = .ok (.iconst 1, 1) := by decide +kernel
theorem dX12_rules_170 : decode cX12_rules 170 = .ok (.goto 4, 3) := by decide +kernel
theorem dX12_rules_173 : decode cX12_rules 173 = .ok (.iconst 0, 1) := by decide +kernel
theorem dX12_rules_174 : decode cX12_rules 174 = .ok (.if_icmp .ne 46, 3) := by decide +kernel
theorem dX12_rules_177 : decode cX12_rules 177 = .ok (.aload_n 0, 1) := by decide +kernel
theorem dX12_rules_178 : decode cX12_rules 178 = .ok (.invokevirtual 46, 3) := by decide +kernel
theorem dX12_rules_181 : decode cX12_rules 181 = .ok (.iconst 2, 1) := by decide +kernel
theorem dX12_rules_182 : decode cX12_rules 182 = .ok (.if_icmp .ne 7, 3) := by decide +kernel
theorem dX12_rules_185 : decode cX12_rules 185 = .ok (.iconst 1, 1) := by decide +kernel
theorem dX12_rules_186 : decode cX12_rules 186 = .ok (.goto 4, 3) := by decide +kernel
theorem dX12_rules_189 : decode cX12_rules 189 = .ok (.iconst 0, 1) := by decide +kernel
theorem dX12_rules_190 : decode cX12_rules 190 = .ok (.aload_n 0, 1) := by decide +kernel
theorem dX12_rules_191 : decode cX12_rules 191 = .ok (.invokevirtual 30, 3) := by decide +kernel
theorem dX12_rules_194 : decode cX12_rules 194 = .ok (.ifCond .le 22, 3) := by decide +kernel
theorem dX12_rules_197 : decode cX12_rules 197 = .ok (.aload_n 0, 1) := by decide +kernel
theorem dX12_rules_198 : decode cX12_rules 198 = .ok (.invokevirtual 43, 3) := by decide +kernel
theorem dX12_rules_201 : decode cX12_rules 201 = .ok (.ifCond .eq 11, 3) := by decide +kernel
theorem dX12_rules_204 : decode cX12_rules 204 = .ok (.aload_n 0, 1) := by decide +kernel
theorem dX12_rules_205 : decode cX12_rules 205 = .ok (.invokevirtual 43, 3) := by decide +kernel
theorem dX12_rules_208 : decode cX12_rules 208 = .ok (.iconst 4, 1) := by decide +kernel
theorem dX12_rules_209 : decode cX12_rules 209 = .ok (.if_icmp .ne 7, 3) := by decide +kernel
theorem dX12_rules_212 : decode cX12_rules 212 = .ok (.iconst 1, 1) := by decide +kernel
theorem dX12_rules_213 : decode cX12_rules 213 = .ok (.goto 4, 3) := by decide +kernel
theorem dX12_rules_216 : decode cX12_rules 216 = .ok (.iconst 0, 1) := by decide +kernel
theorem dX12_rules_217 : decode cX12_rules 217 = .ok (.if_icmp .eq 5, 3) := by decide +kernel
theorem dX12_rules_220 : decode cX12_rules 220 = .ok (.iconst 0, 1) := by decide +kernel
theorem dX12_rules_221 : decode cX12_rules 221 = .ok (.ireturn, 1) := by decide +kernel
theorem dX12_rules_222 : decode cX12_rules 222 = .ok (.iconst 0, 1) := by decide +kernel
theorem dX12_rules_223 : decode cX12_rules 223 = .ok (.istore_n 3, 1) := by decide +kernel
theorem dX12_rules_224 : decode cX12_rules 224 = .ok (.iload_n 3, 1) := by decide +kernel
theorem dX12_rules_225 : decode cX12_rules 225 = .ok (.bipush 24, 2) := by decide +kernel
theorem dX12_rules_227 : decode cX12_rules 227 = .ok (.if_icmp .ge 89, 3) := by decide +kernel
theorem dX12_rules_230 : decode cX12_rules 230 = .ok (.aload_n 0, 1) := by decide +kernel
theorem dX12_rules_231 : decode cX12_rules 231 = .ok (.bipush 15, 2) := by decide +kernel
theorem dX12_rules_233 : decode cX12_rules 233 = .ok (.invokevirtual 49, 3) := by decide +kernel
theorem dX12_rules_236 : decode cX12_rules 236 = .ok (.aload_n 0, 1) := by decide +kernel
theorem dX12_rules_237 : decode cX12_rules 237 = .ok (.iload_n 3, 1) := by decide +kernel
theorem dX12_rules_238 : decode cX12_rules 238 = .ok (.invokevirtual 52, 3) := by decide +kernel
theorem dX12_rules_241 : decode cX12_rules 241 = .ok (.isub, 1) := by decide +kernel
theorem dX12_rules_242 : decode cX12_rules 242 = .ok (.aload_n 0, 1) := by decide +kernel
theorem dX12_rules_243 : decode cX12_rules 243 = .ok (.bipush 16, 2) := by decide +kernel
theorem dX12_rules_245 : decode cX12_rules 245 = .ok (.invokevirtual 49, 3) := by decide +kernel
theorem dX12_rules_248 : decode cX12_rules 248 = .ok (.imul, 1) := by decide +kernel
theorem dX12_rules_249 : decode cX12_rules 249 = .ok (.istore 4, 2) := by decide +kernel
theorem dX12_rules_251 : decode cX12_rules 251 = .ok (.aload_n 0, 1) := by decide +kernel
theorem dX12_rules_252 : decode cX12_rules 252 = .ok (.iload_n 3, 1) := by decide +kernel
theorem dX12_rules_253 : decode cX12_rules 253 = .ok (.invokevirtual 55, 3) := by decide +kernel
theorem dX12_rules_256 : decode cX12_rules 256 = .ok (.aload_n 0, 1) := by decide +kernel
theorem dX12_rules_257 : decode cX12_rules 257 = .ok (.aload_n 0, 1) := by decide +kernel
theorem dX12_rules_258 : decode cX12_rules 258 = .ok (.iload_n 3, 1) := by decide +kernel
theorem dX12_rules_259 : decode cX12_rules 259 = .ok (.invokevirtual 52, 3) := by decide +kernel
theorem dX12_rules_262 : decode cX12_rules 262 = .ok (.invokevirtual 58, 3) := by decide +kernel
theorem dX12_rules_265 : decode cX12_rules 265 = .ok (.aload_n 0, 1) := by decide +kernel
theorem dX12_rules_266 : decode cX12_rules 266 = .ok (.iload_n 3, 1) := by decide +kernel
theorem dX12_rules_267 : decode cX12_rules 267 = .ok (.invokevirtual 61, 3) := by decide +kernel
theorem dX12_rules_270 : decode cX12_rules 270 = .ok (.ifCond .ne 11, 3) := by decide +kernel
theorem dX12_rules_273 : decode cX12_rules 273 = .ok (.aload_n 0, 1) := by decide +kernel
theorem dX12_rules_274 : decode cX12_rules 274 = .ok (.iconst 5, 1) := by decide +kernel
theorem dX12_rules_275 : decode cX12_rules 275 = .ok (.invokevirtual 49, 3) := by decide +kernel
theorem dX12_rules_278 : decode cX12_rules 278 = .ok (.goto 4, 3) := by decide +kernel
theorem dX12_rules_281 : decode cX12_rules 281 = .ok (.iconst 0, 1) := by decide +kernel
theorem dX12_rules_282 : decode cX12_rules 282 = .ok (.iadd, 1) := by decide +kernel
theorem dX12_rules_283 : decode cX12_rules 283 = .ok (.if_icmp .ne 25, 3) := by decide +kernel
theorem dX12_rules_286 : decode cX12_rules 286 = .ok (.aload_n 0, 1) := by decide +kernel
theorem dX12_rules_287 : decode cX12_rules 287 = .ok (.iload_n 3, 1) := by decide +kernel
theorem dX12_rules_288 : decode cX12_rules 288 = .ok (.invokevirtual 8, 3) := by decide +kernel
theorem dX12_rules_291 : decode cX12_rules 291 = .ok (.iload 4, 2) := by decide +kernel
theorem dX12_rules_293 : decode cX12_rules 293 = .ok (.ifCond .ge 7, 3) := by decide +kernel
theorem dX12_rules_296 : decode cX12_rules 296 = .ok (.iconst 0, 1) := by decide +kernel
theorem dX12_rules_297 : decode cX12_rules 297 = .ok (.goto 8, 3) := by decide +kernel
theorem dX12_rules_300 : decode cX12_rules 300 = .ok (.iload 4, 2) := by decide +kernel
theorem dX12_rules_302 : decode cX12_rules 302 = .ok (.bipush 10, 2) := by decide +kernel
theorem dX12_rules_304 : decode cX12_rules 304 = .ok (.idiv, 1) := by decide +kernel
theorem dX12_rules_305 : decode cX12_rules 305 = .ok (.if_icmp .eq 5, 3) := by decide +kernel
theorem dX12_rules_308 : decode cX12_rules 308 = .ok (.iconst 0, 1) := by decide +kernel
theorem dX12_rules_309 : decode cX12_rules 309 = .ok (.ireturn, 1) := by decide +kernel
theorem dX12_rules_310 : decode cX12_rules 310 = .ok (.iinc 3 1, 3) := by decide +kernel
theorem dX12_rules_313 : decode cX12_rules 313 = .ok (.goto (-89), 3) := by decide +kernel
theorem dX12_rules_316 : decode cX12_rules 316 = .ok (.aload_n 0, 1) := by decide +kernel
theorem dX12_rules_317 : decode cX12_rules 317 = .ok (.invokevirtual 64, 3) := by decide +kernel
theorem dX12_rules_320 : decode cX12_rules 320 = .ok (.ifCond .lt 52, 3) := by decide +kernel
theorem dX12_rules_323 : decode cX12_rules 323 = .ok (.aload_n 0, 1) := by decide +kernel
theorem dX12_rules_324 : decode cX12_rules 324 = .ok (.invokevirtual 21, 3) := by decide +kernel
theorem dX12_rules_327 : decode cX12_rules 327 = .ok (.lconst 0, 1) := by decide +kernel
theorem dX12_rules_328 : decode cX12_rules 328 = .ok (.lcmp, 1) := by decide +kernel
theorem dX12_rules_329 : decode cX12_rules 329 = .ok (.ifCond .lt 43, 3) := by decide +kernel
theorem dX12_rules_332 : decode cX12_rules 332 = .ok (.aload_n 0, 1) := by decide +kernel
theorem dX12_rules_333 : decode cX12_rules 333 = .ok (.invokevirtual 67, 3) := by decide +kernel
theorem dX12_rules_336 : decode cX12_rules 336 = .ok (.lconst 0, 1) := by decide +kernel
theorem dX12_rules_337 : decode cX12_rules 337 = .ok (.lcmp, 1) := by decide +kernel
theorem dX12_rules_338 : decode cX12_rules 338 = .ok (.ifCond .lt 34, 3) := by decide +kernel
theorem dX12_rules_341 : decode cX12_rules 341 = .ok (.aload_n 0, 1) := by decide +kernel
theorem dX12_rules_342 : decode cX12_rules 342 = .ok (.invokevirtual 24, 3) := by decide +kernel
theorem dX12_rules_345 : decode cX12_rules 345 = .ok (.lconst 0, 1) := by decide +kernel
theorem dX12_rules_346 : decode cX12_rules 346 = .ok (.lcmp, 1) := by decide +kernel
theorem dX12_rules_347 : decode cX12_rules 347 = .ok (.ifCond .lt 25, 3) := by decide +kernel
theorem dX12_rules_350 : decode cX12_rules 350 = .ok (.aload_n 0, 1) := by decide +kernel
theorem dX12_rules_351 : decode cX12_rules 351 = .ok (.invokevirtual 70, 3) := by decide +kernel
theorem dX12_rules_354 : decode cX12_rules 354 = .ok (.lconst 0, 1) := by decide +kernel
theorem dX12_rules_355 : decode cX12_rules 355 = .ok (.lcmp, 1) := by decide +kernel
theorem dX12_rules_356 : decode cX12_rules 356 = .ok (.ifCond .lt 16, 3) := by decide +kernel
theorem dX12_rules_359 : decode cX12_rules 359 = .ok (.aload_n 0, 1) := by decide +kernel
theorem dX12_rules_360 : decode cX12_rules 360 = .ok (.invokevirtual 73, 3) := by decide +kernel
theorem dX12_rules_363 : decode cX12_rules 363 = .ok (.lconst 0, 1) := by decide +kernel
theorem dX12_rules_364 : decode cX12_rules 364 = .ok (.lcmp, 1) := by decide +kernel
theorem dX12_rules_365 : decode cX12_rules 365 = .ok (.ifCond .lt 7, 3) := by decide +kernel
theorem dX12_rules_368 : decode cX12_rules 368 = .ok (.iconst 1, 1) := by decide +kernel
theorem dX12_rules_369 : decode cX12_rules 369 = .ok (.goto 4, 3) := by decide +kernel
theorem dX12_rules_372 : decode cX12_rules 372 = .ok (.iconst 0, 1) := by decide +kernel
theorem dX12_rules_373 : decode cX12_rules 373 = .ok (.ireturn, 1) := by decide +kernel
set_option maxRecDepth 20000 in
theorem ggX12_runs_X10_time : GoodIn wsX12_runs wsX10_time := goodIn_r _ [7, 8, 9, 327, 328, 329, 330, 331, 332, 333, 334, 335, 336, 337, 338] (by decide +kernel) (by decide +kernel)
set_option maxRecDepth 20000 in
theorem gX12_runs_X10_time : GoodIn wsX12_runs (wsV RX12 30 RX10 yX10_time wsX10_time) := goodIn_app (goodIn_of _ (by decide +kernel)) ggX12_runs_X10_time
set_option maxRecDepth 20000 in
theorem ggX12_runs_X10_cost : GoodIn wsX12_runs wsX10_cost := goodIn_r _ [13, 8, 14, 15, 327, 328, 329, 330, 331, 332, 333, 334, 335, 336, 337, 338, 339, 340, 341, 342, 343, 344, 345, 346, 347, 348, 349] (by decide +kernel) (by decide +kernel)
set_option maxRecDepth 20000 in
theorem gX12_runs_X10_cost : GoodIn wsX12_runs (wsV RX12 70 RX10 yX10_cost wsX10_cost) := goodIn_app (goodIn_of _ (by decide +kernel)) ggX12_runs_X10_cost
set_option maxRecDepth 20000 in
theorem ggX12_runs_X10_stored : GoodIn wsX12_runs wsX10_stored := goodIn_r _ [19, 8, 20, 21, 22, 23, 24, 25, 26, 327, 328, 329, 330, 331, 332, 333, 334, 335, 336, 337, 338, 350, 351] (by decide +kernel) (by decide +kernel)
set_option maxRecDepth 20000 in
theorem gX12_runs_X10_stored : GoodIn wsX12_runs (wsV RX12 76 RX10 yX10_stored wsX10_stored) := goodIn_app (goodIn_of _ (by decide +kernel)) ggX12_runs_X10_stored
