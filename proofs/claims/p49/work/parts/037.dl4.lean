theorem dL_isHealed_243 : decode cL_isHealed 243 = .ok (.iload 9, 2) := by decide +kernel
theorem dL_isHealed_245 : decode cL_isHealed 245 = .ok (.invokevirtual 57, 3) := by decide +kernel
theorem dL_isHealed_248 : decode cL_isHealed 248 = .ok (.iconst 1, 1) := by decide +kernel
theorem dL_isHealed_249 : decode cL_isHealed 249 = .ok (.if_icmp .ne 79, 3) := by decide +kernel
theorem dL_isHealed_252 : decode cL_isHealed 252 = .ok (.iload 8, 2) := by decide +kernel
theorem dL_isHealed_254 : decode cL_isHealed 254 = .ok (.ifCond .eq 71, 3) := by decide +kernel
theorem dL_isHealed_257 : decode cL_isHealed 257 = .ok (.aload_n 0, 1) := by decide +kernel
theorem dL_isHealed_258 : decode cL_isHealed 258 = .ok (.iload 9, 2) := by decide +kernel
theorem dL_isHealed_260 : decode cL_isHealed 260 = .ok (.iconst 0, 1) := by decide +kernel
theorem dL_isHealed_261 : decode cL_isHealed 261 = .ok (.iconst 0, 1) := by decide +kernel
theorem dL_isHealed_262 : decode cL_isHealed 262 = .ok (.invokevirtual 92, 3) := by decide +kernel
theorem dL_isHealed_265 : decode cL_isHealed 265 = .ok (.bipush (-5), 2) := by decide +kernel
theorem dL_isHealed_267 : decode cL_isHealed 267 = .ok (.if_icmp .ne 58, 3) := by decide +kernel
theorem dL_isHealed_270 : decode cL_isHealed 270 = .ok (.aload_n 0, 1) := by decide +kernel
theorem dL_isHealed_271 : decode cL_isHealed 271 = .ok (.iload 9, 2) := by decide +kernel
theorem dL_isHealed_273 : decode cL_isHealed 273 = .ok (.iconst 0, 1) := by decide +kernel
theorem dL_isHealed_274 : decode cL_isHealed 274 = .ok (.iconst 1, 1) := by decide +kernel
theorem dL_isHealed_275 : decode cL_isHealed 275 = .ok (.invokevirtual 105, 3) := by decide +kernel
theorem dL_isHealed_278 : decode cL_isHealed 278 = .ok (.bipush (-5), 2) := by decide +kernel
theorem dL_isHealed_280 : decode cL_isHealed 280 = .ok (.if_icmp .ne 45, 3) := by decide +kernel
theorem dL_isHealed_283 : decode cL_isHealed 283 = .ok (.aload_n 0, 1) := by decide +kernel
theorem dL_isHealed_284 : decode cL_isHealed 284 = .ok (.iload 9, 2) := by decide +kernel
theorem dL_isHealed_286 : decode cL_isHealed 286 = .ok (.iconst 0, 1) := by decide +kernel
theorem dL_isHealed_287 : decode cL_isHealed 287 = .ok (.invokevirtual 115, 3) := by decide +kernel
theorem dL_isHealed_290 : decode cL_isHealed 290 = .ok (.bipush (-5), 2) := by decide +kernel
theorem dL_isHealed_292 : decode cL_isHealed 292 = .ok (.if_icmp .ne 33, 3) := by decide +kernel
theorem dL_isHealed_295 : decode cL_isHealed 295 = .ok (.aload_n 0, 1) := by decide +kernel
theorem dL_isHealed_296 : decode cL_isHealed 296 = .ok (.iload 9, 2) := by decide +kernel
theorem dL_isHealed_298 : decode cL_isHealed 298 = .ok (.iconst 1, 1) := by decide +kernel
theorem dL_isHealed_299 : decode cL_isHealed 299 = .ok (.iconst 2, 1) := by decide +kernel
theorem dL_isHealed_300 : decode cL_isHealed 300 = .ok (.invokevirtual 99, 3) := by decide +kernel
theorem dL_isHealed_303 : decode cL_isHealed 303 = .ok (.bipush (-5), 2) := by decide +kernel
theorem dL_isHealed_305 : decode cL_isHealed 305 = .ok (.if_icmp .ne 20, 3) := by decide +kernel
theorem dL_isHealed_308 : decode cL_isHealed 308 = .ok (.aload_n 0, 1) := by decide +kernel
theorem dL_isHealed_309 : decode cL_isHealed 309 = .ok (.iload 9, 2) := by decide +kernel
theorem dL_isHealed_311 : decode cL_isHealed 311 = .ok (.iconst 1, 1) := by decide +kernel
theorem dL_isHealed_312 : decode cL_isHealed 312 = .ok (.iconst 2, 1) := by decide +kernel
theorem dL_isHealed_313 : decode cL_isHealed 313 = .ok (.invokevirtual 89, 3) := by decide +kernel
theorem dL_isHealed_316 : decode cL_isHealed 316 = .ok (.bipush (-5), 2) := by decide +kernel
theorem dL_isHealed_318 : decode cL_isHealed 318 = .ok (.if_icmp .ne 7, 3) := by decide +kernel
theorem dL_isHealed_321 : decode cL_isHealed 321 = .ok (.iconst 1, 1) := by decide +kernel
theorem dL_isHealed_322 : decode cL_isHealed 322 = .ok (.goto 4, 3) := by decide +kernel
theorem dL_isHealed_325 : decode cL_isHealed 325 = .ok (.iconst 0, 1) := by decide +kernel
theorem dL_isHealed_326 : decode cL_isHealed 326 = .ok (.istore 8, 2) := by decide +kernel
theorem dL_isHealed_328 : decode cL_isHealed 328 = .ok (.iinc 9 1, 3) := by decide +kernel
theorem dL_isHealed_331 : decode cL_isHealed 331 = .ok (.goto (-95), 3) := by decide +kernel
theorem dL_isHealed_334 : decode cL_isHealed 334 = .ok (.iload 8, 2) := by decide +kernel
theorem dL_isHealed_336 : decode cL_isHealed 336 = .ok (.ifCond .eq 16, 3) := by decide +kernel
theorem dL_isHealed_339 : decode cL_isHealed 339 = .ok (.aload_n 0, 1) := by decide +kernel
theorem dL_isHealed_340 : decode cL_isHealed 340 = .ok (.invokestatic 146, 3) := by decide +kernel
theorem dL_isHealed_343 : decode cL_isHealed 343 = .ok (.lload_n 2, 1) := by decide +kernel
theorem dL_isHealed_344 : decode cL_isHealed 344 = .ok (.lcmp, 1) := by decide +kernel
theorem dL_isHealed_345 : decode cL_isHealed 345 = .ok (.ifCond .ne 7, 3) := by decide +kernel
theorem dL_isHealed_348 : decode cL_isHealed 348 = .ok (.iconst 1, 1) := by decide +kernel
theorem dL_isHealed_349 : decode cL_isHealed 349 = .ok (.goto 4, 3) := by decide +kernel
theorem dL_isHealed_352 : decode cL_isHealed 352 = .ok (.iconst 0, 1) := by decide +kernel
theorem dL_isHealed_353 : decode cL_isHealed 353 = .ok (.ireturn, 1) := by decide +kernel
set_option maxRecDepth 20000 in
theorem ggL_isCopied_X5_stopped : GoodIn wsL_isCopied wsX5_stopped := goodIn_r _ [5, 6, 7, 8, 4, 9, 214, 215, 216, 217, 218, 219, 220, 221, 222, 223, 224, 225, 226, 227, 228] (by decide +kernel) (by decide +kernel)
set_option maxRecDepth 20000 in
theorem gL_isCopied_X5_stopped : GoodIn wsL_isCopied (wsV RL 57 RX5 yX5_stopped wsX5_stopped) := goodIn_app (goodIn_of _ (by decide +kernel)) ggL_isCopied_X5_stopped
set_option maxRecDepth 20000 in
theorem ggL_isCopied_L_told : GoodIn wsL_isCopied wsL_told := goodIn_r _ [13, 14, 15, 16, 17, 18, 4, 19, 6, 20, 21, 22, 23, 24, 25, 26, 27, 28, 29, 30, 31, 32, 33, 34, 35, 36, 37, 38, 39, 40, 41, 42, 43, 44, 45, 46, 47, 48, 49, 50, 51, 52, 53, 54, 55, 56, 57, 58, 59, 60, 61, 62, 63, 7, 8, 9, 64, 65, 66, 67, 68, 69, 70, 71, 72, 73, 74, 75, 76, 77, 78, 79, 80, 81, 1, 2, 3, 5, 214, 215, 216, 217, 218, 219, 220, 221, 222, 223, 224, 225, 226, 227, 228, 229, 230, 231, 232, 233, 234] (by decide +kernel) (by decide +kernel)
set_option maxRecDepth 20000 in
theorem gL_isCopied_L_told : GoodIn wsL_isCopied (va_wsS RL 146 yL_told wsL_told) := goodIn_app (goodIn_of _ (by decide +kernel)) ggL_isCopied_L_told
set_option maxRecDepth 20000 in
theorem ggL_isCopied_X5_faults : GoodIn wsL_isCopied wsX5_faults := goodIn_r _ [23, 6, 214, 215, 216, 217, 218, 219, 220, 221, 222, 223, 224, 225, 226, 227, 228, 229, 230, 231] (by decide +kernel) (by decide +kernel)
set_option maxRecDepth 20000 in
theorem gL_isCopied_X5_faults : GoodIn wsL_isCopied (wsV RL 19 RX5 yX5_faults wsX5_faults) := goodIn_app (goodIn_of _ (by decide +kernel)) ggL_isCopied_X5_faults
set_option maxRecDepth 20000 in
theorem ggL_isCopied_X5_load : GoodIn wsL_isCopied wsX5_load := goodIn_r _ [85, 86, 6, 87, 88, 89, 90, 91, 92, 93, 94, 95, 96, 97, 48, 98, 99, 100, 101, 102, 103, 104, 105, 106, 107, 51, 108, 109, 110, 111, 112, 113, 114, 115, 116, 117, 118, 119, 120, 121, 122, 123, 124, 125, 126, 127, 128, 129, 130, 131, 132, 133, 134, 135, 136, 8, 4, 9, 65, 66, 33, 34, 68, 69, 137, 138, 139, 140, 141, 142, 143, 144, 145, 146, 147, 148, 149, 150, 151, 152, 153, 47, 49, 50, 154, 155, 156, 157, 158, 159, 160, 161, 162, 163, 164, 165, 166, 167, 168, 169, 170, 171, 172, 173, 174, 175, 176, 177, 178, 179, 180, 214, 215, 216, 217, 218, 235, 236, 237, 219, 220, 221, 222, 223, 224, 225, 226, 227, 228, 232, 233, 234, 229, 230, 231] (by decide +kernel) (by decide +kernel)
set_option maxRecDepth 20000 in
theorem gL_isCopied_X5_load : GoodIn wsL_isCopied (wsV RL 92 RX5 yX5_load wsX5_load) := goodIn_app (goodIn_of _ (by decide +kernel)) ggL_isCopied_X5_load
set_option maxRecDepth 20000 in
theorem ggL_isCopied_X5_value : GoodIn wsL_isCopied wsX5_value := goodIn_r _ [31, 6, 32, 33, 4, 34, 214, 215, 216, 217, 218, 219, 220, 221, 222, 223, 224, 225, 226, 227, 228, 232, 233, 234] (by decide +kernel) (by decide +kernel)
set_option maxRecDepth 20000 in
theorem gL_isCopied_X5_value : GoodIn wsL_isCopied (wsV RL 25 RX5 yX5_value wsX5_value) := goodIn_app (goodIn_of _ (by decide +kernel)) ggL_isCopied_X5_value
set_option maxRecDepth 20000 in
theorem ggL_isCopied_X5_register : GoodIn wsL_isCopied wsX5_register := goodIn_r _ [63, 6, 7, 8, 4, 9, 64, 65, 66, 67, 68, 69, 214, 215, 216, 217, 218, 219, 220, 221, 222, 223, 224, 225, 226, 227, 228, 232, 233, 234] (by decide +kernel) (by decide +kernel)
set_option maxRecDepth 20000 in
theorem gL_isCopied_X5_register : GoodIn wsL_isCopied (wsV RL 45 RX5 yX5_register wsX5_register) := goodIn_app (goodIn_of _ (by decide +kernel)) ggL_isCopied_X5_register
set_option maxRecDepth 20000 in
theorem ggL_isCopied_X5_registerOrigin : GoodIn wsL_isCopied wsX5_registerOrigin := goodIn_r _ [73, 6, 7, 8, 4, 9, 64, 65, 66, 67, 68, 69, 214, 215, 216, 217, 218, 219, 220, 221, 222, 223, 224, 225, 226, 227, 228, 232, 233, 234] (by decide +kernel) (by decide +kernel)
set_option maxRecDepth 20000 in
theorem gL_isCopied_X5_registerOrigin : GoodIn wsL_isCopied (wsV RL 48 RX5 yX5_registerOrigin wsX5_registerOrigin) := goodIn_app (goodIn_of _ (by decide +kernel)) ggL_isCopied_X5_registerOrigin
set_option maxRecDepth 20000 in
theorem ggL_isCopied_X5_origin : GoodIn wsL_isCopied wsX5_origin := goodIn_r _ [38, 6, 32, 33, 4, 34, 214, 215, 216, 217, 218, 219, 220, 221, 222, 223, 224, 225, 226, 227, 228, 232, 233, 234] (by decide +kernel) (by decide +kernel)
set_option maxRecDepth 20000 in
theorem gL_isCopied_X5_origin : GoodIn wsL_isCopied (wsV RL 29 RX5 yX5_origin wsX5_origin) := goodIn_app (goodIn_of _ (by decide +kernel)) ggL_isCopied_X5_origin
set_option maxRecDepth 20000 in
theorem ggL_isCopied_X5_registerHops : GoodIn wsL_isCopied wsX5_registerHops := goodIn_r _ [77, 6, 7, 8, 4, 9, 64, 65, 66, 67, 68, 69, 214, 215, 216, 217, 218, 219, 220, 221, 222, 223, 224, 225, 226, 227, 228, 232, 233, 234] (by decide +kernel) (by decide +kernel)
set_option maxRecDepth 20000 in
theorem gL_isCopied_X5_registerHops : GoodIn wsL_isCopied (wsV RL 51 RX5 yX5_registerHops wsX5_registerHops) := goodIn_app (goodIn_of _ (by decide +kernel)) ggL_isCopied_X5_registerHops
set_option maxRecDepth 20000 in
theorem ggL_isCopied_X5_hops : GoodIn wsL_isCopied wsX5_hops := goodIn_r _ [42, 6, 32, 33, 4, 34, 214, 215, 216, 217, 218, 219, 220, 221, 222, 223, 224, 225, 226, 227, 228, 232, 233, 234] (by decide +kernel) (by decide +kernel)
set_option maxRecDepth 20000 in
theorem gL_isCopied_X5_hops : GoodIn wsL_isCopied (wsV RL 32 RX5 yX5_hops wsX5_hops) := goodIn_app (goodIn_of _ (by decide +kernel)) ggL_isCopied_X5_hops
set_option maxRecDepth 20000 in
theorem ggL_isCopied_X5_mode : GoodIn wsL_isCopied wsX5_mode := goodIn_r _ [81, 6, 7, 8, 4, 9, 214, 215, 216, 217, 218, 219, 220, 221, 222, 223, 224, 225, 226, 227, 228] (by decide +kernel) (by decide +kernel)
set_option maxRecDepth 20000 in
theorem gL_isCopied_X5_mode : GoodIn wsL_isCopied (wsV RL 54 RX5 yX5_mode wsX5_mode) := goodIn_app (goodIn_of _ (by decide +kernel)) ggL_isCopied_X5_mode
set_option maxRecDepth 20000 in
theorem ggL_isCopied_X5_output : GoodIn wsL_isCopied wsX5_output := goodIn_r _ [184, 86, 6, 87, 88, 89, 90, 91, 92, 93, 94, 95, 96, 97, 48, 98, 99, 100, 101, 102, 103, 104, 105, 106, 107, 51, 108, 109, 110, 111, 112, 113, 114, 115, 116, 117, 118, 119, 120, 121, 122, 123, 124, 125, 126, 127, 128, 129, 130, 131, 132, 185, 186, 187, 188, 8, 4, 9, 65, 66, 189, 190, 191, 192, 68, 69, 149, 150, 151, 152, 193, 194, 195, 196, 197, 167, 168, 169, 198, 199, 200, 201, 202, 203, 204, 205, 158, 159, 160, 161, 171, 172, 173, 174, 175, 176, 177, 178, 179, 180, 214, 215, 216, 217, 218, 235, 236, 237, 219, 220, 221, 222, 223, 224, 225, 226, 227, 228, 232, 233, 234, 229, 230, 231] (by decide +kernel) (by decide +kernel)
set_option maxRecDepth 20000 in
theorem gL_isCopied_X5_output : GoodIn wsL_isCopied (wsV RL 115 RX5 yX5_output wsX5_output) := goodIn_app (goodIn_of _ (by decide +kernel)) ggL_isCopied_X5_output
set_option maxRecDepth 20000 in
theorem ggL_isCopied_X5_log : GoodIn wsL_isCopied wsX5_log := goodIn_r _ [59, 6, 214, 215, 216, 217, 218, 219, 220, 221, 222, 223, 224, 225, 226, 227, 228, 229, 230, 231] (by decide +kernel) (by decide +kernel)
set_option maxRecDepth 20000 in
theorem gL_isCopied_X5_log : GoodIn wsL_isCopied (wsV RL 41 RX5 yX5_log wsX5_log) := goodIn_app (goodIn_of _ (by decide +kernel)) ggL_isCopied_X5_log
set_option maxRecDepth 20000 in
theorem ggL_isCopied_X5_undo : GoodIn wsL_isCopied wsX5_undo := goodIn_r _ [209, 86, 6, 210, 211, 212, 90, 213, 94, 92, 93, 95, 96, 97, 48, 98, 99, 100, 101, 102, 103, 104, 105, 106, 107, 51, 108, 109, 110, 111, 112, 113, 114, 115, 116, 117, 118, 119, 120, 121, 122, 123, 124, 125, 126, 127, 128, 129, 130, 131, 132, 214, 215, 216, 217, 218, 235, 236, 237, 219, 220, 221, 222, 223, 224, 225, 226, 227, 228, 232, 233, 234, 229, 230, 231] (by decide +kernel) (by decide +kernel)
set_option maxRecDepth 20000 in
theorem gL_isCopied_X5_undo : GoodIn wsL_isCopied (wsV RL 156 RX5 yX5_undo wsX5_undo) := goodIn_app (goodIn_of _ (by decide +kernel)) ggL_isCopied_X5_undo
theorem dL_isCopied_0 : decode cL_isCopied 0 = .ok (.aload_n 0, 1) := by decide +kernel
theorem dL_isCopied_1 : decode cL_isCopied 1 = .ok (.iload_n 1, 1) := by decide +kernel
theorem dL_isCopied_2 : decode cL_isCopied 2 = .ok (.invokevirtual 57, 3) := by decide +kernel
theorem dL_isCopied_5 : decode cL_isCopied 5 = .ok (.iconst 1, 1) := by decide +kernel
theorem dL_isCopied_6 : decode cL_isCopied 6 = .ok (.if_icmp .ne 5, 3) := by decide +kernel
theorem dL_isCopied_9 : decode cL_isCopied 9 = .ok (.iconst 1, 1) := by decide +kernel
theorem dL_isCopied_10 : decode cL_isCopied 10 = .ok (.ireturn, 1) := by decide +kernel
theorem dL_isCopied_11 : decode cL_isCopied 11 = .ok (.aload_n 0, 1) := by decide +kernel
theorem dL_isCopied_12 : decode cL_isCopied 12 = .ok (.invokestatic 146, 3) := by decide +kernel
theorem dL_isCopied_15 : decode cL_isCopied 15 = .ok (.lstore 4, 2) := by decide +kernel
theorem dL_isCopied_17 : decode cL_isCopied 17 = .ok (.aload_n 0, 1) := by decide +kernel
theorem dL_isCopied_18 : decode cL_isCopied 18 = .ok (.invokevirtual 19, 3) := by decide +kernel
theorem dL_isCopied_21 : decode cL_isCopied 21 = .ok (.istore 6, 2) := by decide +kernel
theorem dL_isCopied_23 : decode cL_isCopied 23 = .ok (.aload_n 0, 1) := by decide +kernel
theorem dL_isCopied_24 : decode cL_isCopied 24 = .ok (.iload_n 1, 1) := by decide +kernel
theorem dL_isCopied_25 : decode cL_isCopied 25 = .ok (.iload_n 2, 1) := by decide +kernel
theorem dL_isCopied_26 : decode cL_isCopied 26 = .ok (.iload_n 3, 1) := by decide +kernel
theorem dL_isCopied_27 : decode cL_isCopied 27 = .ok (.invokevirtual 92, 3) := by decide +kernel
theorem dL_isCopied_30 : decode cL_isCopied 30 = .ok (.istore 7, 2) := by decide +kernel
theorem dL_isCopied_32 : decode cL_isCopied 32 = .ok (.iload 7, 2) := by decide +kernel
theorem dL_isCopied_34 : decode cL_isCopied 34 = .ok (.aload_n 0, 1) := by decide +kernel
theorem dL_isCopied_35 : decode cL_isCopied 35 = .ok (.iload_n 3, 1) := by decide +kernel
theorem dL_isCopied_36 : decode cL_isCopied 36 = .ok (.invokevirtual 25, 3) := by decide +kernel
theorem dL_isCopied_39 : decode cL_isCopied 39 = .ok (.if_icmp .ne 73, 3) := by decide +kernel
theorem dL_isCopied_42 : decode cL_isCopied 42 = .ok (.aload_n 0, 1) := by decide +kernel
theorem dL_isCopied_43 : decode cL_isCopied 43 = .ok (.iload_n 1, 1) := by decide +kernel
theorem dL_isCopied_44 : decode cL_isCopied 44 = .ok (.iload_n 2, 1) := by decide +kernel
theorem dL_isCopied_45 : decode cL_isCopied 45 = .ok (.invokevirtual 45, 3) := by decide +kernel
theorem dL_isCopied_48 : decode cL_isCopied 48 = .ok (.iload 7, 2) := by decide +kernel
theorem dL_isCopied_50 : decode cL_isCopied 50 = .ok (.if_icmp .ne 62, 3) := by decide +kernel
theorem dL_isCopied_53 : decode cL_isCopied 53 = .ok (.aload_n 0, 1) := by decide +kernel
theorem dL_isCopied_54 : decode cL_isCopied 54 = .ok (.iload_n 1, 1) := by decide +kernel
theorem dL_isCopied_55 : decode cL_isCopied 55 = .ok (.iload_n 2, 1) := by decide +kernel
theorem dL_isCopied_56 : decode cL_isCopied 56 = .ok (.invokevirtual 48, 3) := by decide +kernel
theorem dL_isCopied_59 : decode cL_isCopied 59 = .ok (.aload_n 0, 1) := by decide +kernel
theorem dL_isCopied_60 : decode cL_isCopied 60 = .ok (.iload_n 3, 1) := by decide +kernel
theorem dL_isCopied_61 : decode cL_isCopied 61 = .ok (.invokevirtual 29, 3) := by decide +kernel
theorem dL_isCopied_64 : decode cL_isCopied 64 = .ok (.if_icmp .ne 48, 3) := by decide +kernel
theorem dL_isCopied_67 : decode cL_isCopied 67 = .ok (.aload_n 0, 1) := by decide +kernel
theorem dL_isCopied_68 : decode cL_isCopied 68 = .ok (.iload_n 3, 1) := by decide +kernel
theorem dL_isCopied_69 : decode cL_isCopied 69 = .ok (.invokevirtual 29, 3) := by decide +kernel
theorem dL_isCopied_72 : decode cL_isCopied 72 = .ok (.bipush (-6), 2) := by decide +kernel
theorem dL_isCopied_74 : decode cL_isCopied 74 = .ok (.if_icmp .eq 34, 3) := by decide +kernel
theorem dL_isCopied_77 : decode cL_isCopied 77 = .ok (.aload_n 0, 1) := by decide +kernel
theorem dL_isCopied_78 : decode cL_isCopied 78 = .ok (.iload_n 1, 1) := by decide +kernel
theorem dL_isCopied_79 : decode cL_isCopied 79 = .ok (.iload_n 2, 1) := by decide +kernel
theorem dL_isCopied_80 : decode cL_isCopied 80 = .ok (.invokevirtual 51, 3) := by decide +kernel
theorem dL_isCopied_83 : decode cL_isCopied 83 = .ok (.aload_n 0, 1) := by decide +kernel
theorem dL_isCopied_84 : decode cL_isCopied 84 = .ok (.iload_n 3, 1) := by decide +kernel
theorem dL_isCopied_85 : decode cL_isCopied 85 = .ok (.invokevirtual 32, 3) := by decide +kernel
theorem dL_isCopied_88 : decode cL_isCopied 88 = .ok (.bipush 99, 2) := by decide +kernel
theorem dL_isCopied_90 : decode cL_isCopied 90 = .ok (.if_icmp .ge 13, 3) := by decide +kernel
theorem dL_isCopied_93 : decode cL_isCopied 93 = .ok (.aload_n 0, 1) := by decide +kernel
theorem dL_isCopied_94 : decode cL_isCopied 94 = .ok (.iload_n 3, 1) := by decide +kernel
theorem dL_isCopied_95 : decode cL_isCopied 95 = .ok (.invokevirtual 32, 3) := by decide +kernel
theorem dL_isCopied_98 : decode cL_isCopied 98 = .ok (.iconst 1, 1) := by decide +kernel
theorem dL_isCopied_99 : decode cL_isCopied 99 = .ok (.iadd, 1) := by decide +kernel
theorem dL_isCopied_100 : decode cL_isCopied 100 = .ok (.goto 5, 3) := by decide +kernel
theorem dL_isCopied_103 : decode cL_isCopied 103 = .ok (.bipush 99, 2) := by decide +kernel
theorem dL_isCopied_105 : decode cL_isCopied 105 = .ok (.if_icmp .ne 7, 3) := by decide +kernel
theorem dL_isCopied_108 : decode cL_isCopied 108 = .ok (.iconst 1, 1) := by decide +kernel
theorem dL_isCopied_109 : decode cL_isCopied 109 = .ok (.goto 4, 3) := by decide +kernel
theorem dL_isCopied_112 : decode cL_isCopied 112 = .ok (.iconst 0, 1) := by decide +kernel
theorem dL_isCopied_113 : decode cL_isCopied 113 = .ok (.istore 8, 2) := by decide +kernel
theorem dL_isCopied_115 : decode cL_isCopied 115 = .ok (.aload_n 0, 1) := by decide +kernel
theorem dL_isCopied_116 : decode cL_isCopied 116 = .ok (.iload_n 1, 1) := by decide +kernel
theorem dL_isCopied_117 : decode cL_isCopied 117 = .ok (.iload_n 2, 1) := by decide +kernel
theorem dL_isCopied_118 : decode cL_isCopied 118 = .ok (.invokevirtual 48, 3) := by decide +kernel
theorem dL_isCopied_121 : decode cL_isCopied 121 = .ok (.istore 9, 2) := by decide +kernel
theorem dL_isCopied_123 : decode cL_isCopied 123 = .ok (.aload_n 0, 1) := by decide +kernel
theorem dL_isCopied_124 : decode cL_isCopied 124 = .ok (.iload_n 1, 1) := by decide +kernel
theorem dL_isCopied_125 : decode cL_isCopied 125 = .ok (.invokevirtual 54, 3) := by decide +kernel
theorem dL_isCopied_128 : decode cL_isCopied 128 = .ok (.istore 10, 2) := by decide +kernel
theorem dL_isCopied_130 : decode cL_isCopied 130 = .ok (.aload_n 0, 1) := by decide +kernel
theorem dL_isCopied_131 : decode cL_isCopied 131 = .ok (.iload_n 1, 1) := by decide +kernel
theorem dL_isCopied_132 : decode cL_isCopied 132 = .ok (.iload_n 2, 1) := by decide +kernel
theorem dL_isCopied_133 : decode cL_isCopied 133 = .ok (.invokevirtual 115, 3) := by decide +kernel
theorem dL_isCopied_136 : decode cL_isCopied 136 = .ok (.istore 11, 2) := by decide +kernel
theorem dL_isCopied_138 : decode cL_isCopied 138 = .ok (.iload 9, 2) := by decide +kernel
theorem dL_isCopied_140 : decode cL_isCopied 140 = .ok (.bipush (-6), 2) := by decide +kernel
theorem dL_isCopied_142 : decode cL_isCopied 142 = .ok (.if_icmp .eq 7, 3) := by decide +kernel
theorem dL_isCopied_145 : decode cL_isCopied 145 = .ok (.iconst 1, 1) := by decide +kernel
theorem dL_isCopied_146 : decode cL_isCopied 146 = .ok (.goto 4, 3) := by decide +kernel
theorem dL_isCopied_149 : decode cL_isCopied 149 = .ok (.iconst 0, 1) := by decide +kernel
theorem dL_isCopied_150 : decode cL_isCopied 150 = .ok (.istore 12, 2) := by decide +kernel
theorem dL_isCopied_152 : decode cL_isCopied 152 = .ok (.iload 8, 2) := by decide +kernel
theorem dL_isCopied_154 : decode cL_isCopied 154 = .ok (.ifCond .eq 77, 3) := by decide +kernel
theorem dL_isCopied_157 : decode cL_isCopied 157 = .ok (.iload 11, 2) := by decide +kernel
theorem dL_isCopied_159 : decode cL_isCopied 159 = .ok (.iload 12, 2) := by decide +kernel
theorem dL_isCopied_161 : decode cL_isCopied 161 = .ok (.ifCond .ne 8, 3) := by decide +kernel
theorem dL_isCopied_164 : decode cL_isCopied 164 = .ok (.iload 7, 2) := by decide +kernel
theorem dL_isCopied_166 : decode cL_isCopied 166 = .ok (.goto 15, 3) := by decide +kernel
theorem dL_isCopied_169 : decode cL_isCopied 169 = .ok (.iload 10, 2) := by decide +kernel
theorem dL_isCopied_171 : decode cL_isCopied 171 = .ok (.iconst 2, 1) := by decide +kernel
theorem dL_isCopied_172 : decode cL_isCopied 172 = .ok (.if_icmp .ne 7, 3) := by decide +kernel
theorem dL_isCopied_175 : decode cL_isCopied 175 = .ok (.iconst 0, 1) := by decide +kernel
theorem dL_isCopied_176 : decode cL_isCopied 176 = .ok (.goto 5, 3) := by decide +kernel
theorem dL_isCopied_179 : decode cL_isCopied 179 = .ok (.bipush (-7), 2) := by decide +kernel
theorem dL_isCopied_181 : decode cL_isCopied 181 = .ok (.if_icmp .ne 50, 3) := by decide +kernel
theorem dL_isCopied_184 : decode cL_isCopied 184 = .ok (.aload_n 0, 1) := by decide +kernel
theorem dL_isCopied_185 : decode cL_isCopied 185 = .ok (.invokevirtual 19, 3) := by decide +kernel
theorem dL_isCopied_188 : decode cL_isCopied 188 = .ok (.iload 6, 2) := by decide +kernel
theorem dL_isCopied_190 : decode cL_isCopied 190 = .ok (.iload 12, 2) := by decide +kernel
theorem dL_isCopied_192 : decode cL_isCopied 192 = .ok (.ifCond .eq 7, 3) := by decide +kernel
theorem dL_isCopied_195 : decode cL_isCopied 195 = .ok (.iconst 1, 1) := by decide +kernel
theorem dL_isCopied_196 : decode cL_isCopied 196 = .ok (.goto 4, 3) := by decide +kernel
theorem dL_isCopied_199 : decode cL_isCopied 199 = .ok (.iconst 0, 1) := by decide +kernel
theorem dL_isCopied_200 : decode cL_isCopied 200 = .ok (.iadd, 1) := by decide +kernel
theorem dL_isCopied_201 : decode cL_isCopied 201 = .ok (.if_icmp .ne 30, 3) := by decide +kernel
theorem dL_isCopied_204 : decode cL_isCopied 204 = .ok (.aload_n 0, 1) := by decide +kernel
theorem dL_isCopied_205 : decode cL_isCopied 205 = .ok (.iload_n 1, 1) := by decide +kernel
theorem dL_isCopied_206 : decode cL_isCopied 206 = .ok (.invokevirtual 57, 3) := by decide +kernel
theorem dL_isCopied_209 : decode cL_isCopied 209 = .ok (.iload 12, 2) := by decide +kernel
theorem dL_isCopied_211 : decode cL_isCopied 211 = .ok (.ifCond .eq 12, 3) := by decide +kernel
theorem dL_isCopied_214 : decode cL_isCopied 214 = .ok (.iload 10, 2) := by decide +kernel
theorem dL_isCopied_216 : decode cL_isCopied 216 = .ok (.ifCond .ne 7, 3) := by decide +kernel
theorem dL_isCopied_219 : decode cL_isCopied 219 = .ok (.iconst 1, 1) := by decide +kernel
theorem dL_isCopied_220 : decode cL_isCopied 220 = .ok (.goto 4, 3) := by decide +kernel
theorem dL_isCopied_223 : decode cL_isCopied 223 = .ok (.iconst 0, 1) := by decide +kernel
theorem dL_isCopied_224 : decode cL_isCopied 224 = .ok (.if_icmp .ne 7, 3) := by decide +kernel
theorem dL_isCopied_227 : decode cL_isCopied 227 = .ok (.iconst 1, 1) := by decide +kernel
theorem dL_isCopied_228 : decode cL_isCopied 228 = .ok (.goto 4, 3) := by decide +kernel
theorem dL_isCopied_231 : decode cL_isCopied 231 = .ok (.iconst 0, 1) := by decide +kernel
theorem dL_isCopied_232 : decode cL_isCopied 232 = .ok (.istore 8, 2) := by decide +kernel
theorem dL_isCopied_234 : decode cL_isCopied 234 = .ok (.iload 8, 2) := by decide +kernel
theorem dL_isCopied_236 : decode cL_isCopied 236 = .ok (.ifCond .eq 80, 3) := by decide +kernel
theorem dL_isCopied_239 : decode cL_isCopied 239 = .ok (.iload 12, 2) := by decide +kernel
theorem dL_isCopied_241 : decode cL_isCopied 241 = .ok (.ifCond .eq 71, 3) := by decide +kernel
theorem dL_isCopied_244 : decode cL_isCopied 244 = .ok (.aload_n 0, 1) := by decide +kernel
theorem dL_isCopied_245 : decode cL_isCopied 245 = .ok (.iconst 0, 1) := by decide +kernel
theorem dL_isCopied_246 : decode cL_isCopied 246 = .ok (.iconst 0, 1) := by decide +kernel
theorem dL_isCopied_247 : decode cL_isCopied 247 = .ok (.invokevirtual 41, 3) := by decide +kernel
theorem dL_isCopied_250 : decode cL_isCopied 250 = .ok (.iload_n 1, 1) := by decide +kernel
theorem dL_isCopied_251 : decode cL_isCopied 251 = .ok (.if_icmp .ne 65, 3) := by decide +kernel
theorem dL_isCopied_254 : decode cL_isCopied 254 = .ok (.aload_n 0, 1) := by decide +kernel
theorem dL_isCopied_255 : decode cL_isCopied 255 = .ok (.iconst 0, 1) := by decide +kernel
theorem dL_isCopied_256 : decode cL_isCopied 256 = .ok (.iconst 1, 1) := by decide +kernel
theorem dL_isCopied_257 : decode cL_isCopied 257 = .ok (.invokevirtual 41, 3) := by decide +kernel
theorem dL_isCopied_260 : decode cL_isCopied 260 = .ok (.iload_n 2, 1) := by decide +kernel
theorem dL_isCopied_261 : decode cL_isCopied 261 = .ok (.if_icmp .ne 55, 3) := by decide +kernel
theorem dL_isCopied_264 : decode cL_isCopied 264 = .ok (.aload_n 0, 1) := by decide +kernel
theorem dL_isCopied_265 : decode cL_isCopied 265 = .ok (.iconst 0, 1) := by decide +kernel
theorem dL_isCopied_266 : decode cL_isCopied 266 = .ok (.iconst 2, 1) := by decide +kernel
