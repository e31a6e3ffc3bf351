set_option maxRecDepth 20000 in
theorem ggL_holds_X5_widest : GoodIn wsL_holds wsX5_widest := goodIn_r _ [77, 8, 78, 33, 79, 80, 81, 82, 83, 84, 85, 86, 87, 88, 138, 139, 140, 141, 142, 143, 144, 145, 146, 147, 148, 149, 150, 151, 152, 153, 154, 155] (by decide +kernel) (by decide +kernel)
set_option maxRecDepth 20000 in
theorem gL_holds_X5_widest : GoodIn wsL_holds (wsV RL 126 RX5 yX5_widest wsX5_widest) := goodIn_app (goodIn_of _ (by decide +kernel)) ggL_holds_X5_widest
set_option maxRecDepth 20000 in
theorem ggL_holds_X5_injections : GoodIn wsL_holds wsX5_injections := goodIn_r _ [27, 8, 138, 139, 140, 141, 142, 143, 144, 145, 146, 147, 148, 149, 150, 151, 152] (by decide +kernel) (by decide +kernel)
set_option maxRecDepth 20000 in
theorem gL_holds_X5_injections : GoodIn wsL_holds (wsV RL 11 RX5 yX5_injections wsX5_injections) := goodIn_app (goodIn_of _ (by decide +kernel)) ggL_holds_X5_injections
set_option maxRecDepth 20000 in
theorem ggL_holds_X5_carriers : GoodIn wsL_holds wsX5_carriers := goodIn_r _ [92, 8, 32, 33, 34, 35, 36, 78, 79, 80, 81, 82, 83, 84, 85, 86, 87, 88, 138, 139, 140, 141, 142, 143, 144, 145, 146, 147, 148, 149, 150, 151, 152, 153, 154, 155] (by decide +kernel) (by decide +kernel)
set_option maxRecDepth 20000 in
theorem gL_holds_X5_carriers : GoodIn wsL_holds (wsV RL 129 RX5 yX5_carriers wsX5_carriers) := goodIn_app (goodIn_of _ (by decide +kernel)) ggL_holds_X5_carriers
set_option maxRecDepth 20000 in
theorem ggL_holds_X5_farthest : GoodIn wsL_holds wsX5_farthest := goodIn_r _ [96, 8, 97, 98, 99, 100, 32, 33, 34, 35, 36, 101, 102, 103, 86, 104, 88, 105, 106, 138, 139, 140, 141, 142, 143, 144, 145, 146, 147, 148, 149, 150, 151, 152, 153, 154, 155] (by decide +kernel) (by decide +kernel)
set_option maxRecDepth 20000 in
theorem gL_holds_X5_farthest : GoodIn wsL_holds (wsV RL 132 RX5 yX5_farthest wsX5_farthest) := goodIn_app (goodIn_of _ (by decide +kernel)) ggL_holds_X5_farthest
set_option maxRecDepth 20000 in
theorem ggL_holds_X5_atRisk : GoodIn wsL_holds wsX5_atRisk := goodIn_r _ [110, 8, 59, 60, 6, 61, 111, 112, 113, 86, 114, 115, 116, 117, 118, 88, 138, 139, 140, 141, 142, 143, 144, 145, 146, 147, 148, 149, 150, 151, 152, 153, 154, 155] (by decide +kernel) (by decide +kernel)
set_option maxRecDepth 20000 in
theorem gL_holds_X5_atRisk : GoodIn wsL_holds (wsV RL 135 RX5 yX5_atRisk wsX5_atRisk) := goodIn_app (goodIn_of _ (by decide +kernel)) ggL_holds_X5_atRisk
set_option maxRecDepth 20000 in
theorem ggL_holds_X5_poisonedIfScrubbed : GoodIn wsL_holds wsX5_poisonedIfScrubbed := goodIn_r _ [122, 8, 111, 112, 113, 86, 114, 115, 116, 117, 118, 88, 123, 33, 124, 125, 126, 127, 128, 129, 81, 130, 131, 132, 41, 42, 43, 44, 138, 139, 140, 141, 142, 143, 144, 145, 146, 147, 148, 149, 150, 151, 152, 153, 154, 155] (by decide +kernel) (by decide +kernel)
set_option maxRecDepth 20000 in
theorem gL_holds_X5_poisonedIfScrubbed : GoodIn wsL_holds (wsV RL 138 RX5 yX5_poisonedIfScrubbed wsX5_poisonedIfScrubbed) := goodIn_app (goodIn_of _ (by decide +kernel)) ggL_holds_X5_poisonedIfScrubbed
set_option maxRecDepth 20000 in
theorem ggL_holds_X5_poisonShare : GoodIn wsL_holds wsX5_poisonShare := goodIn_r _ [136, 8, 137, 111, 112, 113, 86, 114, 115, 116, 117, 118, 88, 138, 139, 140, 141, 142, 143, 144, 145, 146, 147, 148, 149, 150, 151, 152, 153, 154, 155] (by decide +kernel) (by decide +kernel)
set_option maxRecDepth 20000 in
theorem gL_holds_X5_poisonShare : GoodIn wsL_holds (wsV RL 141 RX5 yX5_poisonShare wsX5_poisonShare) := goodIn_app (goodIn_of _ (by decide +kernel)) ggL_holds_X5_poisonShare
theorem dL_holds_0 : decode cL_holds 0 = .ok (.iconst 0, 1) := by decide +kernel
theorem dL_holds_1 : decode cL_holds 1 = .ok (.istore_n 1, 1) := by decide +kernel
theorem dL_holds_2 : decode cL_holds 2 = .ok (.iconst 0, 1) := by decide +kernel
theorem dL_holds_3 : decode cL_holds 3 = .ok (.istore_n 2, 1) := by decide +kernel
theorem dL_holds_4 : decode cL_holds 4 = .ok (.iconst 0, 1) := by decide +kernel
theorem dL_holds_5 : decode cL_holds 5 = .ok (.istore_n 3, 1) := by decide +kernel
theorem dL_holds_6 : decode cL_holds 6 = .ok (.iconst 0, 1) := by decide +kernel
theorem dL_holds_7 : decode cL_holds 7 = .ok (.istore 4, 2) := by decide +kernel
theorem dL_holds_9 : decode cL_holds 9 = .ok (.iconst 0, 1) := by decide +kernel
theorem dL_holds_10 : decode cL_holds 10 = .ok (.istore 5, 2) := by decide +kernel
theorem dL_holds_12 : decode cL_holds 12 = .ok (.iconst 1, 1) := by decide +kernel
theorem dL_holds_13 : decode cL_holds 13 = .ok (.istore 6, 2) := by decide +kernel
theorem dL_holds_15 : decode cL_holds 15 = .ok (.iconst 0, 1) := by decide +kernel
theorem dL_holds_16 : decode cL_holds 16 = .ok (.istore 7, 2) := by decide +kernel
theorem dL_holds_18 : decode cL_holds 18 = .ok (.iload 7, 2) := by decide +kernel
theorem dL_holds_20 : decode cL_holds 20 = .ok (.bipush 32, 2) := by decide +kernel
theorem dL_holds_22 : decode cL_holds 22 = .ok (.if_icmp .ge 155, 3) := by decide +kernel
theorem dL_holds_25 : decode cL_holds 25 = .ok (.aload_n 0, 1) := by decide +kernel
theorem dL_holds_26 : decode cL_holds 26 = .ok (.iload 7, 2) := by decide +kernel
theorem dL_holds_28 : decode cL_holds 28 = .ok (.invokevirtual 29, 3) := by decide +kernel
theorem dL_holds_31 : decode cL_holds 31 = .ok (.bipush (-6), 2) := by decide +kernel
theorem dL_holds_33 : decode cL_holds 33 = .ok (.if_icmp .eq 7, 3) := by decide +kernel
theorem dL_holds_36 : decode cL_holds 36 = .ok (.iconst 1, 1) := by decide +kernel
theorem dL_holds_37 : decode cL_holds 37 = .ok (.goto 4, 3) := by decide +kernel
theorem dL_holds_40 : decode cL_holds 40 = .ok (.iconst 0, 1) := by decide +kernel
theorem dL_holds_41 : decode cL_holds 41 = .ok (.istore 8, 2) := by decide +kernel
theorem dL_holds_43 : decode cL_holds 43 = .ok (.iload 6, 2) := by decide +kernel
theorem dL_holds_45 : decode cL_holds 45 = .ok (.ifCond .eq 75, 3) := by decide +kernel
theorem dL_holds_48 : decode cL_holds 48 = .ok (.aload_n 0, 1) := by decide +kernel
theorem dL_holds_49 : decode cL_holds 49 = .ok (.iload 7, 2) := by decide +kernel
theorem dL_holds_51 : decode cL_holds 51 = .ok (.invokevirtual 25, 3) := by decide +kernel
theorem dL_holds_54 : decode cL_holds 54 = .ok (.ifCond .lt 66, 3) := by decide +kernel
theorem dL_holds_57 : decode cL_holds 57 = .ok (.aload_n 0, 1) := by decide +kernel
theorem dL_holds_58 : decode cL_holds 58 = .ok (.iload 7, 2) := by decide +kernel
theorem dL_holds_60 : decode cL_holds 60 = .ok (.invokevirtual 25, 3) := by decide +kernel
theorem dL_holds_63 : decode cL_holds 63 = .ok (.ldc 118, 2) := by decide +kernel
theorem dL_holds_65 : decode cL_holds 65 = .ok (.if_icmp .gt 55, 3) := by decide +kernel
theorem dL_holds_68 : decode cL_holds 68 = .ok (.aload_n 0, 1) := by decide +kernel
theorem dL_holds_69 : decode cL_holds 69 = .ok (.aload_n 0, 1) := by decide +kernel
theorem dL_holds_70 : decode cL_holds 70 = .ok (.iload 7, 2) := by decide +kernel
theorem dL_holds_72 : decode cL_holds 72 = .ok (.invokevirtual 29, 3) := by decide +kernel
theorem dL_holds_75 : decode cL_holds 75 = .ok (.aload_n 0, 1) := by decide +kernel
theorem dL_holds_76 : decode cL_holds 76 = .ok (.iload 7, 2) := by decide +kernel
theorem dL_holds_78 : decode cL_holds 78 = .ok (.invokevirtual 32, 3) := by decide +kernel
theorem dL_holds_81 : decode cL_holds 81 = .ok (.invokestatic 119, 3) := by decide +kernel
theorem dL_holds_84 : decode cL_holds 84 = .ok (.ifCond .eq 36, 3) := by decide +kernel
theorem dL_holds_87 : decode cL_holds 87 = .ok (.iload 8, 2) := by decide +kernel
theorem dL_holds_89 : decode cL_holds 89 = .ok (.ifCond .eq 27, 3) := by decide +kernel
theorem dL_holds_92 : decode cL_holds 92 = .ok (.aload_n 0, 1) := by decide +kernel
theorem dL_holds_93 : decode cL_holds 93 = .ok (.iload 7, 2) := by decide +kernel
theorem dL_holds_95 : decode cL_holds 95 = .ok (.invokevirtual 32, 3) := by decide +kernel
theorem dL_holds_98 : decode cL_holds 98 = .ok (.ifCond .gt 18, 3) := by decide +kernel
theorem dL_holds_101 : decode cL_holds 101 = .ok (.aload_n 0, 1) := by decide +kernel
theorem dL_holds_102 : decode cL_holds 102 = .ok (.aload_n 0, 1) := by decide +kernel
theorem dL_holds_103 : decode cL_holds 103 = .ok (.iload 7, 2) := by decide +kernel
theorem dL_holds_105 : decode cL_holds 105 = .ok (.invokevirtual 29, 3) := by decide +kernel
theorem dL_holds_108 : decode cL_holds 108 = .ok (.invokevirtual 123, 3) := by decide +kernel
theorem dL_holds_111 : decode cL_holds 111 = .ok (.iload 7, 2) := by decide +kernel
theorem dL_holds_113 : decode cL_holds 113 = .ok (.if_icmp .ne 7, 3) := by decide +kernel
theorem dL_holds_116 : decode cL_holds 116 = .ok (.iconst 1, 1) := by decide +kernel
theorem dL_holds_117 : decode cL_holds 117 = .ok (.goto 4, 3) := by decide +kernel
theorem dL_holds_120 : decode cL_holds 120 = .ok (.iconst 0, 1) := by decide +kernel
theorem dL_holds_121 : decode cL_holds 121 = .ok (.istore 6, 2) := by decide +kernel
theorem dL_holds_123 : decode cL_holds 123 = .ok (.iload_n 2, 1) := by decide +kernel
theorem dL_holds_124 : decode cL_holds 124 = .ok (.iload 8, 2) := by decide +kernel
theorem dL_holds_126 : decode cL_holds 126 = .ok (.ifCond .eq 7, 3) := by decide +kernel
theorem dL_holds_129 : decode cL_holds 129 = .ok (.iconst 1, 1) := by decide +kernel
theorem dL_holds_130 : decode cL_holds 130 = .ok (.goto 4, 3) := by decide +kernel
theorem dL_holds_133 : decode cL_holds 133 = .ok (.iconst 0, 1) := by decide +kernel
theorem dL_holds_134 : decode cL_holds 134 = .ok (.iadd, 1) := by decide +kernel
theorem dL_holds_135 : decode cL_holds 135 = .ok (.istore_n 2, 1) := by decide +kernel
theorem dL_holds_136 : decode cL_holds 136 = .ok (.iload 5, 2) := by decide +kernel
theorem dL_holds_138 : decode cL_holds 138 = .ok (.iload 8, 2) := by decide +kernel
theorem dL_holds_140 : decode cL_holds 140 = .ok (.ifCond .eq 27, 3) := by decide +kernel
theorem dL_holds_143 : decode cL_holds 143 = .ok (.aload_n 0, 1) := by decide +kernel
theorem dL_holds_144 : decode cL_holds 144 = .ok (.iload 7, 2) := by decide +kernel
theorem dL_holds_146 : decode cL_holds 146 = .ok (.invokevirtual 35, 3) := by decide +kernel
theorem dL_holds_149 : decode cL_holds 149 = .ok (.ifCond .lt 18, 3) := by decide +kernel
theorem dL_holds_152 : decode cL_holds 152 = .ok (.aload_n 0, 1) := by decide +kernel
theorem dL_holds_153 : decode cL_holds 153 = .ok (.iload 7, 2) := by decide +kernel
theorem dL_holds_155 : decode cL_holds 155 = .ok (.invokevirtual 38, 3) := by decide +kernel
theorem dL_holds_158 : decode cL_holds 158 = .ok (.bipush (-6), 2) := by decide +kernel
theorem dL_holds_160 : decode cL_holds 160 = .ok (.if_icmp .ne 7, 3) := by decide +kernel
theorem dL_holds_163 : decode cL_holds 163 = .ok (.iconst 1, 1) := by decide +kernel
theorem dL_holds_164 : decode cL_holds 164 = .ok (.goto 4, 3) := by decide +kernel
theorem dL_holds_167 : decode cL_holds 167 = .ok (.iconst 0, 1) := by decide +kernel
theorem dL_holds_168 : decode cL_holds 168 = .ok (.iadd, 1) := by decide +kernel
theorem dL_holds_169 : decode cL_holds 169 = .ok (.istore 5, 2) := by decide +kernel
theorem dL_holds_171 : decode cL_holds 171 = .ok (.iinc 7 1, 3) := by decide +kernel
theorem dL_holds_174 : decode cL_holds 174 = .ok (.goto (-156), 3) := by decide +kernel
theorem dL_holds_177 : decode cL_holds 177 = .ok (.iload_n 2, 1) := by decide +kernel
theorem dL_holds_178 : decode cL_holds 178 = .ok (.istore_n 3, 1) := by decide +kernel
theorem dL_holds_179 : decode cL_holds 179 = .ok (.iconst 0, 1) := by decide +kernel
theorem dL_holds_180 : decode cL_holds 180 = .ok (.istore 7, 2) := by decide +kernel
theorem dL_holds_182 : decode cL_holds 182 = .ok (.iload 7, 2) := by decide +kernel
theorem dL_holds_184 : decode cL_holds 184 = .ok (.bipush 16, 2) := by decide +kernel
theorem dL_holds_186 : decode cL_holds 186 = .ok (.if_icmp .ge 172, 3) := by decide +kernel
theorem dL_holds_189 : decode cL_holds 189 = .ok (.aload_n 0, 1) := by decide +kernel
theorem dL_holds_190 : decode cL_holds 190 = .ok (.iload 7, 2) := by decide +kernel
theorem dL_holds_192 : decode cL_holds 192 = .ok (.iconst 4, 1) := by decide +kernel
theorem dL_holds_193 : decode cL_holds 193 = .ok (.idiv, 1) := by decide +kernel
theorem dL_holds_194 : decode cL_holds 194 = .ok (.iload 7, 2) := by decide +kernel
theorem dL_holds_196 : decode cL_holds 196 = .ok (.iconst 4, 1) := by decide +kernel
theorem dL_holds_197 : decode cL_holds 197 = .ok (.irem, 1) := by decide +kernel
theorem dL_holds_198 : decode cL_holds 198 = .ok (.invokevirtual 48, 3) := by decide +kernel
theorem dL_holds_201 : decode cL_holds 201 = .ok (.bipush (-6), 2) := by decide +kernel
theorem dL_holds_203 : decode cL_holds 203 = .ok (.if_icmp .eq 7, 3) := by decide +kernel
theorem dL_holds_206 : decode cL_holds 206 = .ok (.iconst 1, 1) := by decide +kernel
theorem dL_holds_207 : decode cL_holds 207 = .ok (.goto 4, 3) := by decide +kernel
theorem dL_holds_210 : decode cL_holds 210 = .ok (.iconst 0, 1) := by decide +kernel
theorem dL_holds_211 : decode cL_holds 211 = .ok (.istore 8, 2) := by decide +kernel
theorem dL_holds_213 : decode cL_holds 213 = .ok (.iload 6, 2) := by decide +kernel
theorem dL_holds_215 : decode cL_holds 215 = .ok (.ifCond .eq 90, 3) := by decide +kernel
theorem dL_holds_218 : decode cL_holds 218 = .ok (.aload_n 0, 1) := by decide +kernel
theorem dL_holds_219 : decode cL_holds 219 = .ok (.iload 7, 2) := by decide +kernel
theorem dL_holds_221 : decode cL_holds 221 = .ok (.iconst 4, 1) := by decide +kernel
theorem dL_holds_222 : decode cL_holds 222 = .ok (.idiv, 1) := by decide +kernel
theorem dL_holds_223 : decode cL_holds 223 = .ok (.iload 7, 2) := by decide +kernel
theorem dL_holds_225 : decode cL_holds 225 = .ok (.iconst 4, 1) := by decide +kernel
theorem dL_holds_226 : decode cL_holds 226 = .ok (.irem, 1) := by decide +kernel
theorem dL_holds_227 : decode cL_holds 227 = .ok (.invokevirtual 45, 3) := by decide +kernel
theorem dL_holds_230 : decode cL_holds 230 = .ok (.ifCond .lt 75, 3) := by decide +kernel
theorem dL_holds_233 : decode cL_holds 233 = .ok (.aload_n 0, 1) := by decide +kernel
theorem dL_holds_234 : decode cL_holds 234 = .ok (.iload 7, 2) := by decide +kernel
theorem dL_holds_236 : decode cL_holds 236 = .ok (.iconst 4, 1) := by decide +kernel
theorem dL_holds_237 : decode cL_holds 237 = .ok (.idiv, 1) := by decide +kernel
theorem dL_holds_238 : decode cL_holds 238 = .ok (.iload 7, 2) := by decide +kernel
theorem dL_holds_240 : decode cL_holds 240 = .ok (.iconst 4, 1) := by decide +kernel
theorem dL_holds_241 : decode cL_holds 241 = .ok (.irem, 1) := by decide +kernel
theorem dL_holds_242 : decode cL_holds 242 = .ok (.invokevirtual 45, 3) := by decide +kernel
theorem dL_holds_245 : decode cL_holds 245 = .ok (.ldc 118, 2) := by decide +kernel
theorem dL_holds_247 : decode cL_holds 247 = .ok (.if_icmp .gt 58, 3) := by decide +kernel
theorem dL_holds_250 : decode cL_holds 250 = .ok (.aload_n 0, 1) := by decide +kernel
theorem dL_holds_251 : decode cL_holds 251 = .ok (.aload_n 0, 1) := by decide +kernel
theorem dL_holds_252 : decode cL_holds 252 = .ok (.iload 7, 2) := by decide +kernel
theorem dL_holds_254 : decode cL_holds 254 = .ok (.iconst 4, 1) := by decide +kernel
theorem dL_holds_255 : decode cL_holds 255 = .ok (.idiv, 1) := by decide +kernel
theorem dL_holds_256 : decode cL_holds 256 = .ok (.iload 7, 2) := by decide +kernel
theorem dL_holds_258 : decode cL_holds 258 = .ok (.iconst 4, 1) := by decide +kernel
theorem dL_holds_259 : decode cL_holds 259 = .ok (.irem, 1) := by decide +kernel
theorem dL_holds_260 : decode cL_holds 260 = .ok (.invokevirtual 48, 3) := by decide +kernel
theorem dL_holds_263 : decode cL_holds 263 = .ok (.aload_n 0, 1) := by decide +kernel
theorem dL_holds_264 : decode cL_holds 264 = .ok (.iload 7, 2) := by decide +kernel
theorem dL_holds_266 : decode cL_holds 266 = .ok (.iconst 4, 1) := by decide +kernel
theorem dL_holds_267 : decode cL_holds 267 = .ok (.idiv, 1) := by decide +kernel
theorem dL_holds_268 : decode cL_holds 268 = .ok (.iload 7, 2) := by decide +kernel
theorem dL_holds_270 : decode cL_holds 270 = .ok (.iconst 4, 1) := by decide +kernel
theorem dL_holds_271 : decode cL_holds 271 = .ok (.irem, 1) := by decide +kernel
theorem dL_holds_272 : decode cL_holds 272 = .ok (.invokevirtual 51, 3) := by decide +kernel
theorem dL_holds_275 : decode cL_holds 275 = .ok (.invokestatic 119, 3) := by decide +kernel
theorem dL_holds_278 : decode cL_holds 278 = .ok (.ifCond .eq 27, 3) := by decide +kernel
theorem dL_holds_281 : decode cL_holds 281 = .ok (.iload 8, 2) := by decide +kernel
theorem dL_holds_283 : decode cL_holds 283 = .ok (.ifCond .eq 18, 3) := by decide +kernel
theorem dL_holds_286 : decode cL_holds 286 = .ok (.aload_n 0, 1) := by decide +kernel
theorem dL_holds_287 : decode cL_holds 287 = .ok (.iload 7, 2) := by decide +kernel
theorem dL_holds_289 : decode cL_holds 289 = .ok (.iconst 4, 1) := by decide +kernel
theorem dL_holds_290 : decode cL_holds 290 = .ok (.idiv, 1) := by decide +kernel
theorem dL_holds_291 : decode cL_holds 291 = .ok (.iload 7, 2) := by decide +kernel
theorem dL_holds_293 : decode cL_holds 293 = .ok (.iconst 4, 1) := by decide +kernel
theorem dL_holds_294 : decode cL_holds 294 = .ok (.irem, 1) := by decide +kernel
theorem dL_holds_295 : decode cL_holds 295 = .ok (.invokevirtual 51, 3) := by decide +kernel
theorem dL_holds_298 : decode cL_holds 298 = .ok (.ifCond .le 7, 3) := by decide +kernel
theorem dL_holds_301 : decode cL_holds 301 = .ok (.iconst 1, 1) := by decide +kernel
theorem dL_holds_302 : decode cL_holds 302 = .ok (.goto 4, 3) := by decide +kernel
theorem dL_holds_305 : decode cL_holds 305 = .ok (.iconst 0, 1) := by decide +kernel
theorem dL_holds_306 : decode cL_holds 306 = .ok (.istore 6, 2) := by decide +kernel
theorem dL_holds_308 : decode cL_holds 308 = .ok (.iload_n 2, 1) := by decide +kernel
theorem dL_holds_309 : decode cL_holds 309 = .ok (.iload 8, 2) := by decide +kernel
theorem dL_holds_311 : decode cL_holds 311 = .ok (.ifCond .eq 7, 3) := by decide +kernel
theorem dL_holds_314 : decode cL_holds 314 = .ok (.iconst 1, 1) := by decide +kernel
theorem dL_holds_315 : decode cL_holds 315 = .ok (.goto 4, 3) := by decide +kernel
theorem dL_holds_318 : decode cL_holds 318 = .ok (.iconst 0, 1) := by decide +kernel
theorem dL_holds_319 : decode cL_holds 319 = .ok (.iadd, 1) := by decide +kernel
theorem dL_holds_320 : decode cL_holds 320 = .ok (.istore_n 2, 1) := by decide +kernel
theorem dL_holds_321 : decode cL_holds 321 = .ok (.iload 4, 2) := by decide +kernel
theorem dL_holds_323 : decode cL_holds 323 = .ok (.iload 8, 2) := by decide +kernel
theorem dL_holds_325 : decode cL_holds 325 = .ok (.ifCond .eq 23, 3) := by decide +kernel
theorem dL_holds_328 : decode cL_holds 328 = .ok (.aload_n 0, 1) := by decide +kernel
theorem dL_holds_329 : decode cL_holds 329 = .ok (.iload 7, 2) := by decide +kernel
theorem dL_holds_331 : decode cL_holds 331 = .ok (.iconst 4, 1) := by decide +kernel
theorem dL_holds_332 : decode cL_holds 332 = .ok (.idiv, 1) := by decide +kernel
theorem dL_holds_333 : decode cL_holds 333 = .ok (.invokevirtual 57, 3) := by decide +kernel
theorem dL_holds_336 : decode cL_holds 336 = .ok (.ifCond .ne 12, 3) := by decide +kernel
theorem dL_holds_339 : decode cL_holds 339 = .ok (.iconst 1, 1) := by decide +kernel
theorem dL_holds_340 : decode cL_holds 340 = .ok (.iload 7, 2) := by decide +kernel
theorem dL_holds_342 : decode cL_holds 342 = .ok (.iconst 4, 1) := by decide +kernel
theorem dL_holds_343 : decode cL_holds 343 = .ok (.idiv, 1) := by decide +kernel
theorem dL_holds_344 : decode cL_holds 344 = .ok (.ishl, 1) := by decide +kernel
theorem dL_holds_345 : decode cL_holds 345 = .ok (.goto 4, 3) := by decide +kernel
theorem dL_holds_348 : decode cL_holds 348 = .ok (.iconst 0, 1) := by decide +kernel
theorem dL_holds_349 : decode cL_holds 349 = .ok (.ior, 1) := by decide +kernel
theorem dL_holds_350 : decode cL_holds 350 = .ok (.istore 4, 2) := by decide +kernel
theorem dL_holds_352 : decode cL_holds 352 = .ok (.iinc 7 1, 3) := by decide +kernel
theorem dL_holds_355 : decode cL_holds 355 = .ok (.goto (-173), 3) := by decide +kernel
theorem dL_holds_358 : decode cL_holds 358 = .ok (.aload_n 0, 1) := by decide +kernel
theorem dL_holds_359 : decode cL_holds 359 = .ok (.invokevirtual 126, 3) := by decide +kernel
theorem dL_holds_362 : decode cL_holds 362 = .ok (.istore 7, 2) := by decide +kernel
theorem dL_holds_364 : decode cL_holds 364 = .ok (.iconst 0, 1) := by decide +kernel
theorem dL_holds_365 : decode cL_holds 365 = .ok (.istore 8, 2) := by decide +kernel
theorem dL_holds_367 : decode cL_holds 367 = .ok (.iload 8, 2) := by decide +kernel
theorem dL_holds_369 : decode cL_holds 369 = .ok (.aload_n 0, 1) := by decide +kernel
theorem dL_holds_370 : decode cL_holds 370 = .ok (.invokevirtual 11, 3) := by decide +kernel
theorem dL_holds_373 : decode cL_holds 373 = .ok (.if_icmp .ge 92, 3) := by decide +kernel
theorem dL_holds_376 : decode cL_holds 376 = .ok (.iload_n 1, 1) := by decide +kernel
theorem dL_holds_377 : decode cL_holds 377 = .ok (.aload_n 0, 1) := by decide +kernel
theorem dL_holds_378 : decode cL_holds 378 = .ok (.iload 8, 2) := by decide +kernel
theorem dL_holds_380 : decode cL_holds 380 = .ok (.invokevirtual 129, 3) := by decide +kernel
theorem dL_holds_383 : decode cL_holds 383 = .ok (.iadd, 1) := by decide +kernel
theorem dL_holds_384 : decode cL_holds 384 = .ok (.istore_n 1, 1) := by decide +kernel
theorem dL_holds_385 : decode cL_holds 385 = .ok (.iload 6, 2) := by decide +kernel
theorem dL_holds_387 : decode cL_holds 387 = .ok (.ifCond .eq 69, 3) := by decide +kernel
theorem dL_holds_390 : decode cL_holds 390 = .ok (.aload_n 0, 1) := by decide +kernel
theorem dL_holds_391 : decode cL_holds 391 = .ok (.iload 8, 2) := by decide +kernel
theorem dL_holds_393 : decode cL_holds 393 = .ok (.invokevirtual 132, 3) := by decide +kernel
