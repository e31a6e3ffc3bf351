theorem dL_isCopied_267 : decode cL_isCopied 267 = .ok (.invokevirtual 41, 3) := by decide +kernel
theorem dL_isCopied_270 : decode cL_isCopied 270 = .ok (.iload 9, 2) := by decide +kernel
theorem dL_isCopied_272 : decode cL_isCopied 272 = .ok (.if_icmp .ne 44, 3) := by decide +kernel
theorem dL_isCopied_275 : decode cL_isCopied 275 = .ok (.aload_n 0, 1) := by decide +kernel
theorem dL_isCopied_276 : decode cL_isCopied 276 = .ok (.iconst 0, 1) := by decide +kernel
theorem dL_isCopied_277 : decode cL_isCopied 277 = .ok (.iconst 3, 1) := by decide +kernel
theorem dL_isCopied_278 : decode cL_isCopied 278 = .ok (.invokevirtual 41, 3) := by decide +kernel
theorem dL_isCopied_281 : decode cL_isCopied 281 = .ok (.iload 10, 2) := by decide +kernel
theorem dL_isCopied_283 : decode cL_isCopied 283 = .ok (.if_icmp .ne 33, 3) := by decide +kernel
theorem dL_isCopied_286 : decode cL_isCopied 286 = .ok (.iload 10, 2) := by decide +kernel
theorem dL_isCopied_288 : decode cL_isCopied 288 = .ok (.iconst 2, 1) := by decide +kernel
theorem dL_isCopied_289 : decode cL_isCopied 289 = .ok (.if_icmp .lt 23, 3) := by decide +kernel
theorem dL_isCopied_292 : decode cL_isCopied 292 = .ok (.aload_n 0, 1) := by decide +kernel
theorem dL_isCopied_293 : decode cL_isCopied 293 = .ok (.iload_n 1, 1) := by decide +kernel
theorem dL_isCopied_294 : decode cL_isCopied 294 = .ok (.iload_n 2, 1) := by decide +kernel
theorem dL_isCopied_295 : decode cL_isCopied 295 = .ok (.invokevirtual 48, 3) := by decide +kernel
theorem dL_isCopied_298 : decode cL_isCopied 298 = .ok (.bipush (-6), 2) := by decide +kernel
theorem dL_isCopied_300 : decode cL_isCopied 300 = .ok (.if_icmp .ne 16, 3) := by decide +kernel
theorem dL_isCopied_303 : decode cL_isCopied 303 = .ok (.aload_n 0, 1) := by decide +kernel
theorem dL_isCopied_304 : decode cL_isCopied 304 = .ok (.iload_n 1, 1) := by decide +kernel
theorem dL_isCopied_305 : decode cL_isCopied 305 = .ok (.iload_n 2, 1) := by decide +kernel
theorem dL_isCopied_306 : decode cL_isCopied 306 = .ok (.invokevirtual 45, 3) := by decide +kernel
theorem dL_isCopied_309 : decode cL_isCopied 309 = .ok (.ifCond .ne 7, 3) := by decide +kernel
theorem dL_isCopied_312 : decode cL_isCopied 312 = .ok (.iconst 1, 1) := by decide +kernel
theorem dL_isCopied_313 : decode cL_isCopied 313 = .ok (.goto 4, 3) := by decide +kernel
theorem dL_isCopied_316 : decode cL_isCopied 316 = .ok (.iconst 0, 1) := by decide +kernel
theorem dL_isCopied_317 : decode cL_isCopied 317 = .ok (.istore 8, 2) := by decide +kernel
theorem dL_isCopied_319 : decode cL_isCopied 319 = .ok (.iload 8, 2) := by decide +kernel
theorem dL_isCopied_321 : decode cL_isCopied 321 = .ok (.ifCond .eq 31, 3) := by decide +kernel
theorem dL_isCopied_324 : decode cL_isCopied 324 = .ok (.aload_n 0, 1) := by decide +kernel
theorem dL_isCopied_325 : decode cL_isCopied 325 = .ok (.invokevirtual 156, 3) := by decide +kernel
theorem dL_isCopied_328 : decode cL_isCopied 328 = .ok (.ifCond .lt 24, 3) := by decide +kernel
theorem dL_isCopied_331 : decode cL_isCopied 331 = .ok (.aload_n 0, 1) := by decide +kernel
theorem dL_isCopied_332 : decode cL_isCopied 332 = .ok (.invokevirtual 156, 3) := by decide +kernel
theorem dL_isCopied_335 : decode cL_isCopied 335 = .ok (.ifCond .lt 17, 3) := by decide +kernel
theorem dL_isCopied_338 : decode cL_isCopied 338 = .ok (.aload_n 0, 1) := by decide +kernel
theorem dL_isCopied_339 : decode cL_isCopied 339 = .ok (.invokestatic 146, 3) := by decide +kernel
theorem dL_isCopied_342 : decode cL_isCopied 342 = .ok (.lload 4, 2) := by decide +kernel
theorem dL_isCopied_344 : decode cL_isCopied 344 = .ok (.lcmp, 1) := by decide +kernel
theorem dL_isCopied_345 : decode cL_isCopied 345 = .ok (.ifCond .ne 7, 3) := by decide +kernel
theorem dL_isCopied_348 : decode cL_isCopied 348 = .ok (.iconst 1, 1) := by decide +kernel
theorem dL_isCopied_349 : decode cL_isCopied 349 = .ok (.goto 4, 3) := by decide +kernel
theorem dL_isCopied_352 : decode cL_isCopied 352 = .ok (.iconst 0, 1) := by decide +kernel
theorem dL_isCopied_353 : decode cL_isCopied 353 = .ok (.ireturn, 1) := by decide +kernel
set_option maxRecDepth 20000 in
theorem ggL_law_X5_init : GoodIn wsL_law wsX5_init := goodIn_r _ [5, 6, 7, 8, 9, 10, 11, 12, 13, 14, 15, 16, 17, 18, 19, 20, 21, 22, 23, 24, 25, 26, 27, 28, 29, 30, 31, 32, 33, 34, 35, 36, 37, 38, 39, 40, 41, 42, 43, 44, 45, 46, 47, 48, 49, 50, 51, 52, 53, 54, 55, 56, 57, 58, 59, 60, 61, 62, 63, 64, 65, 66, 67, 68, 69, 70, 506, 507, 508, 509, 510, 511, 512, 513, 514, 515, 501, 502, 503, 504, 505, 516, 517, 518, 519, 520, 521, 522, 523, 524, 525, 526, 527, 528, 529, 530] (by decide +kernel) (by decide +kernel)
set_option maxRecDepth 20000 in
theorem gL_law_X5_init : GoodIn wsL_law (wsX5_init) := ggL_law_X5_init
set_option maxRecDepth 20000 in
theorem ggL_law_L_holds : GoodIn wsL_law wsL_holds := goodIn_r _ [74, 75, 76, 77, 78, 79, 2, 80, 12, 81, 82, 83, 84, 85, 86, 87, 88, 89, 90, 91, 92, 93, 73, 94, 95, 96, 97, 98, 99, 100, 101, 102, 103, 11, 104, 105, 106, 107, 108, 109, 110, 111, 112, 113, 34, 114, 115, 116, 117, 118, 119, 120, 121, 122, 123, 124, 125, 126, 127, 128, 129, 130, 131, 132, 133, 134, 135, 136, 137, 138, 139, 140, 141, 142, 143, 144, 145, 146, 147, 148, 149, 30, 32, 150, 151, 152, 24, 153, 48, 154, 155, 156, 157, 158, 159, 160, 161, 162, 163, 164, 165, 166, 167, 168, 169, 49, 170, 171, 172, 173, 174, 175, 176, 177, 178, 179, 180, 181, 182, 183, 184, 185, 186, 187, 188, 189, 190, 191, 192, 193, 31, 194, 195, 196, 197, 198, 199, 200, 501, 502, 503, 504, 505, 506, 507, 508, 509, 510, 511, 512, 513, 514, 515, 525, 526, 527] (by decide +kernel) (by decide +kernel)
set_option maxRecDepth 20000 in
theorem gL_law_L_holds : GoodIn wsL_law (va_wsS RL 160 yL_holds wsL_holds) := goodIn_app (goodIn_of _ (by decide +kernel)) ggL_law_L_holds
set_option maxRecDepth 20000 in
theorem ggL_law_X5_undo : GoodIn wsL_law wsX5_undo := goodIn_r _ [204, 17, 12, 205, 206, 207, 16, 208, 209, 63, 210, 211, 212, 213, 11, 214, 30, 31, 32, 36, 215, 216, 217, 218, 38, 34, 37, 42, 106, 219, 220, 221, 222, 24, 223, 47, 224, 48, 49, 225, 226, 227, 228, 229, 230, 41, 231, 57, 232, 233, 234, 501, 502, 503, 504, 505, 516, 517, 518, 506, 507, 508, 509, 510, 511, 512, 513, 514, 515, 525, 526, 527, 528, 529, 530] (by decide +kernel) (by decide +kernel)
set_option maxRecDepth 20000 in
theorem gL_law_X5_undo : GoodIn wsL_law (wsV RL 156 RX5 yX5_undo wsX5_undo) := goodIn_app (goodIn_of _ (by decide +kernel)) ggL_law_X5_undo
set_option maxRecDepth 20000 in
theorem ggL_law_L_cell : GoodIn wsL_law wsL_cell := goodIn_r _ [237, 238] (by decide +kernel) (by decide +kernel)
set_option maxRecDepth 20000 in
theorem gL_law_L_cell : GoodIn wsL_law (va_wsS RL 164 yL_cell wsL_cell) := goodIn_app (goodIn_of _ (by decide +kernel)) ggL_law_L_cell
set_option maxRecDepth 20000 in
theorem ggL_law_L_told : GoodIn wsL_law wsL_told := goodIn_r _ [241, 242, 243, 95, 96, 97, 2, 98, 12, 244, 245, 246, 247, 248, 249, 250, 251, 84, 85, 86, 87, 81, 82, 83, 77, 78, 79, 80, 88, 89, 90, 91, 107, 108, 109, 110, 111, 11, 112, 113, 34, 114, 115, 116, 117, 252, 253, 254, 255, 131, 132, 133, 134, 122, 123, 124, 125, 126, 127, 128, 129, 130, 118, 119, 120, 121, 135, 136, 137, 138, 256, 257, 258, 259, 139, 140, 141, 142, 501, 502, 503, 504, 505, 506, 507, 508, 509, 510, 511, 512, 513, 514, 515, 528, 529, 530, 525, 526, 527] (by decide +kernel) (by decide +kernel)
set_option maxRecDepth 20000 in
theorem gL_law_L_told : GoodIn wsL_law (va_wsS RL 146 yL_told wsL_told) := goodIn_app (goodIn_of _ (by decide +kernel)) ggL_law_L_told
set_option maxRecDepth 20000 in
theorem ggL_law_X5_faults : GoodIn wsL_law wsX5_faults := goodIn_r _ [247, 12, 501, 502, 503, 504, 505, 506, 507, 508, 509, 510, 511, 512, 513, 514, 515, 528, 529, 530] (by decide +kernel) (by decide +kernel)
set_option maxRecDepth 20000 in
theorem gL_law_X5_faults : GoodIn wsL_law (wsV RL 19 RX5 yX5_faults wsX5_faults) := goodIn_app (goodIn_of _ (by decide +kernel)) ggL_law_X5_faults
