theorem dL_isCopied_267 : decode cL_isCopied 267 = .ok (.invokevirtual 41, 3) := by decide +kernel
theorem dL_isCopied_270 : decode cL_isCopied 270 = .ok (.iload 9, 2) := by decide +kernel
theorem dL_isCopied_272 : decode cL_isCopied 272 = .ok (.if_icmp .ne 44, 3) := by decide +kernel
theorem dL_isCopied_275 : decode cL_isCopied 275 = .ok (.aload_n 0, 1) := by decide +kernel
theorem dL_isCopied_276 : decode cL_isCopied 276 = .ok (.iconst 0, 1) := by decide +kernel
theorem dL_isCopied_277 : decode cL_isCopied 277 = .ok (.iconst 3, 1) := by decide +kernel
theorem dL_isCopied_278 : decode cL_isCopied 278 = .ok (.invokevirtual 41, 3) := by decide +kernel
theorem dL_isCopied_281 : decode cL_isCopied 281 = .ok (.iload 10, 2) := by decide +kernel
theorem dL_isCopied_283 : decode cL_isCopied 283 = .ok (.if_icmp .ne 33, 3) := by decide +kernel
theorem dL_isCopied_286 : decode cL_isCopied 286 = .ok (.iload 10, 2) := by decide +kernel
theorem dL_isCopied_288 : decode cL_isCopied 288 = .ok (.iconst 2, 1) := by decide +kernel
theorem dL_isCopied_289 : decode cL_isCopied 289 = .ok (.if_icmp .lt 23, 3) := by decide +kernel
theorem dL_isCopied_292 : decode cL_isCopied 292 = .ok (.aload_n 0, 1) := by decide +kernel
theorem dL_isCopied_293 : decode cL_isCopied 293 = .ok (.iload_n 1, 1) := by decide +kernel
theorem dL_isCopied_294 : decode cL_isCopied 294 = .ok (.iload_n 2, 1) := by decide +kernel
theorem dL_isCopied_295 : decode cL_isCopied 295 = .ok (.invokevirtual 48, 3) := by decide +kernel
theorem dL_isCopied_298 : decode cL_isCopied 298 = .ok (.bipush (-6), 2) := by decide +kernel
theorem dL_isCopied_300 : decode cL_isCopied 300 = .ok (.if_icmp .ne 16, 3) := by decide +kernel
theorem dL_isCopied_303 : decode cL_isCopied 303 = .ok (.aload_n 0, 1) := by decide +kernel
theorem dL_isCopied_304 : decode cL_isCopied 304 = .ok (.iload_n 1, 1) := by decide +kernel
theorem dL_isCopied_305 : decode cL_isCopied 305 = .ok (.iload_n 2, 1) := by decide +kernel
theorem dL_isCopied_306 : decode cL_isCopied 306 = .ok (.invokevirtual 45, 3) := by decide +kernel
theorem dL_isCopied_309 : decode cL_isCopied 309 = .ok (.ifCond .ne 7, 3) := by decide +kernel
theorem dL_isCopied_312 : decode cL_isCopied 312 = .ok (.iconst 1, 1) := by decide +kernel
theorem dL_isCopied_313 : decode cL_isCopied 313 = .ok (.goto 4, 3) := by decide +kernel
theorem dL_isCopied_316 : decode cL_isCopied 316 = .ok (.iconst 0, 1) := by decide +kernel
theorem dL_isCopied_317 : decode cL_isCopied 317 = .ok (.istore 8, 2) := by decide +kernel
theorem dL_isCopied_319 : decode cL_isCopied 319 = .ok (.iload 8, 2) := by decide +kernel
theorem dL_isCopied_321 : decode cL_isCopied 321 = .ok (.ifCond .eq 31, 3) := by decide +kernel
theorem dL_isCopied_324 : decode cL_isCopied 324 = .ok (.aload_n 0, 1) := by decide +kernel
theorem dL_isCopied_325 : decode cL_isCopied 325 = .ok (.invokevirtual 156, 3) := by decide +kernel
theorem dL_isCopied_328 : decode cL_isCopied 328 = .ok (.ifCond .lt 24, 3) := by decide +kernel
theorem dL_isCopied_331 : decode cL_isCopied 331 = .ok (.aload_n 0, 1) := by decide +kernel
theorem dL_isCopied_332 : decode cL_isCopied 332 = .ok (.invokevirtual 156, 3) := by decide +kernel
theorem dL_isCopied_335 : decode cL_isCopied 335 = .ok (.ifCond .lt 17, 3) := by decide +kernel
theorem dL_isCopied_338 : decode cL_isCopied 338 = .ok (.aload_n 0, 1) := by decide +kernel
theorem dL_isCopied_339 : decode cL_isCopied 339 = .ok (.invokestatic 146, 3) := by decide +kernel
theorem dL_isCopied_342 : decode cL_isCopied 342 = .ok (.lload 4, 2) := by decide +kernel
theorem dL_isCopied_344 : decode cL_isCopied 344 = .ok (.lcmp, 1) := by decide +kernel
theorem dL_isCopied_345 : decode cL_isCopied 345 = .ok (.ifCond .ne 7, 3) := by decide +kernel
theorem dL_isCopied_348 : decode cL_isCopied 348 = .ok (.iconst 1, 1) := by decide +kernel
theorem dL_isCopied_349 : decode cL_isCopied 349 = .ok (.goto 4, 3) := by decide +kernel
theorem dL_isCopied_352 : decode cL_isCopied 352 = .ok (.iconst 0, 1) := by decide +kernel
theorem dL_isCopied_353 : decode cL_isCopied 353 = .ok (.ireturn, 1) := by decide +kernel
set_option maxRecDepth 20000 in
theorem ggL_law_X5_init : GoodIn wsL_law wsX5_init := goodIn_r _ [5, 6, 7, 8, 9, 10, 11, 12, 13, 14, 15, 16, 17, 18, 19, 20, 21, 22, 23, 24, 25, 26, 27, 28, 29, 30, 31, 32, 33, 34, 35, 36, 37, 38, 39, 40, 41, 42, 43, 44, 45, 46, 47, 48, 49, 50, 51, 52, 53, 54, 55, 56, 57, 58, 59, 60, 61, 62, 63, 64, 65, 66, 67, 68, 69, 70, 506, 507, 508, 509, 510, 511, 512, 513, 514, 515, 501, 502, 503, 504, 505, 516, 517, 518, 519, 520, 521, 522, 523, 524, 525, 526, 527, 528, 529, 530] (by decide +kernel) (by decide +kernel)
set_option maxRecDepth 20000 in
theorem gL_law_X5_init : GoodIn wsL_law (wsX5_init) := ggL_law_X5_init
set_option maxRecDepth 20000 in
theorem ggL_law_L_holds : GoodIn wsL_law wsL_holds := goodIn_r _ [74, 75, 76, 77, 78, 79, 2, 80, 12, 81, 82, 83, 84, 85, 86, 87, 88, 89, 90, 91, 92, 93, 73, 94, 95, 96, 97, 98, 99, 100, 101, 102, 103, 11, 104, 105, 106, 107, 108, 109, 110, 111, 112, 113, 34, 114, 115, 116, 117, 118, 119, 120, 121, 122, 123, 124, 125, 126, 127, 128, 129, 130, 131, 132, 133, 134, 135, 136, 137, 138, 139, 140, 141, 142, 143, 144, 145, 146, 147, 148, 149, 30, 32, 150, 151, 152, 24, 153, 48, 154, 155, 156, 157, 158, 159, 160, 161, 162, 163, 164, 165, 166, 167, 168, 169, 49, 170, 171, 172, 173, 174, 175, 176, 177, 178, 179, 180, 181, 182, 183, 184, 185, 186, 187, 188, 189, 190, 191, 192, 193, 31, 194, 195, 196, 197, 198, 199, 200, 501, 502, 503, 504, 505, 506, 507, 508, 509, 510, 511, 512, 513, 514, 515, 525, 526, 527] (by decide +kernel) (by decide +kernel)
set_option maxRecDepth 20000 in
theorem gL_law_L_holds : GoodIn wsL_law (va_wsS RL 160 yL_holds wsL_holds) := goodIn_app (goodIn_of _ (by decide +kernel)) ggL_law_L_holds
set_option maxRecDepth 20000 in
theorem ggL_law_X5_undo : GoodIn wsL_law wsX5_undo := goodIn_r _ [204, 17, 12, 205, 206, 207, 16, 208, 209, 63, 210, 211, 212, 213, 11, 214, 30, 31, 32, 36, 215, 216, 217, 218, 38, 34, 37, 42, 106, 219, 220, 221, 222, 24, 223, 47, 224, 48, 49, 225, 226, 227, 228, 229, 230, 41, 231, 57, 232, 233, 234, 501, 502, 503, 504, 505, 516, 517, 518, 506, 507, 508, 509, 510, 511, 512, 513, 514, 515, 525, 526, 527, 528, 529, 530] (by decide +kernel) (by decide +kernel)
set_option maxRecDepth 20000 in
theorem gL_law_X5_undo : GoodIn wsL_law (wsV RL 156 RX5 yX5_undo wsX5_undo) := goodIn_app (goodIn_of _ (by decide +kernel)) ggL_law_X5_undo
set_option maxRecDepth 20000 in
theorem ggL_law_L_cell : GoodIn wsL_law wsL_cell := goodIn_r _ [237, 238] (by decide +kernel) (by decide +kernel)
set_option maxRecDepth 20000 in
theorem gL_law_L_cell : GoodIn wsL_law (va_wsS RL 164 yL_cell wsL_cell) := goodIn_app (goodIn_of _ (by decide +kernel)) ggL_law_L_cell
set_option maxRecDepth 20000 in
theorem ggL_law_L_told : GoodIn wsL_law wsL_told := goodIn_r _ [241, 242, 243, 95, 96, 97, 2, 98, 12, 244, 245, 246, 247, 248, 249, 250, 251, 84, 85, 86, 87, 81, 82, 83, 77, 78, 79, 80, 88, 89, 90, 91, 107, 108, 109, 110, 111, 11, 112, 113, 34, 114, 115, 116, 117, 252, 253, 254, 255, 131, 132, 133, 134, 122, 123, 124, 125, 126, 127, 128, 129, 130, 118, 119, 120, 121, 135, 136, 137, 138, 256, 257, 258, 259, 139, 140, 141, 142, 501, 502, 503, 504, 505, 506, 507, 508, 509, 510, 511, 512, 513, 514, 515, 528, 529, 530, 525, 526, 527] (by decide +kernel) (by decide +kernel)
set_option maxRecDepth 20000 in
theorem gL_law_L_told : GoodIn wsL_law (va_wsS RL 146 yL_told wsL_told) := goodIn_app (goodIn_of _ (by decide +kernel)) ggL_law_L_told
set_option maxRecDepth 20000 in
theorem ggL_law_X5_faults : GoodIn wsL_law wsX5_faults := goodIn_r _ [247, 12, 501, 502, 503, 504, 505, 506, 507, 508, 509, 510, 511, 512, 513, 514, 515, 528, 529, 530] (by decide +kernel) (by decide +kernel)
set_option maxRecDepth 20000 in
theorem gL_law_X5_faults : GoodIn wsL_law (wsV RL 19 RX5 yX5_faults wsX5_faults) := goodIn_app (goodIn_of _ (by decide +kernel)) ggL_law_X5_faults
set_option maxRecDepth 20000 in
theorem ggL_law_L_act : GoodIn wsL_law wsL_act := goodIn_r _ [262, 263, 264, 265, 73, 266, 267, 268, 269, 270, 2, 271, 17, 12, 272, 273, 274, 16, 275, 63, 210, 209, 211, 212, 213, 11, 214, 30, 31, 32, 36, 215, 216, 217, 218, 38, 34, 37, 42, 106, 219, 220, 221, 222, 24, 223, 47, 224, 48, 49, 225, 226, 227, 228, 229, 230, 41, 231, 57, 232, 233, 234, 276, 277, 278, 279, 82, 83, 280, 281, 282, 283, 284, 285, 286, 287, 288, 289, 290, 291, 292, 293, 294, 295, 296, 297, 25, 298, 299, 300, 301, 302, 303, 304, 305, 306, 307, 190, 191, 192, 193, 194, 180, 181, 182, 195, 111, 112, 113, 308, 309, 310, 311, 312, 313, 314, 315, 316, 317, 318, 319, 320, 321, 322, 164, 323, 179, 324, 325, 326, 327, 328, 176, 177, 178, 329, 330, 331, 332, 333, 334, 335, 336, 337, 338, 339, 340, 341, 342, 343, 344, 345, 346, 347, 348, 349, 350, 351, 352, 353, 354, 355, 356, 357, 358, 359, 360, 361, 362, 363, 364, 365, 366, 367, 368, 369, 370, 371, 372, 373, 123, 124, 374, 375, 376, 377, 378, 379, 380, 381, 129, 130, 382, 383, 384, 385, 386, 387, 388, 389, 126, 127, 390, 391, 392, 393, 394, 395, 396, 397, 398, 399, 400, 401, 402, 403, 404, 405, 406, 407, 408, 409, 410, 411, 412, 413, 414, 415, 416, 417, 418, 419, 420, 421, 422, 423, 424, 425, 426, 427, 428, 429, 430, 431, 432, 433, 434, 435, 436, 437, 438, 439, 440, 441, 442, 443, 444, 445, 446, 447, 448, 449, 450, 451, 452, 453, 454, 455, 456, 457, 458, 459, 460, 461, 462, 463, 464, 465, 466, 467, 468, 469, 470, 471, 472, 473, 474, 475, 476, 477, 478, 479, 480, 481, 482, 501, 502, 503, 504, 505, 516, 517, 518, 506, 507, 508, 509, 510, 511, 512, 513, 514, 515, 525, 526, 527, 528, 529, 530] (by decide +kernel) (by decide +kernel)
set_option maxRecDepth 20000 in
theorem gL_law_L_act : GoodIn wsL_law (va_wsS RL 168 yL_act wsL_act) := goodIn_app (goodIn_of _ (by decide +kernel)) ggL_law_L_act
set_option maxRecDepth 20000 in
theorem ggL_law_L_isError : GoodIn wsL_law wsL_isError := goodIn_r _ [485] (by decide +kernel) (by decide +kernel)
set_option maxRecDepth 20000 in
theorem gL_law_L_isError : GoodIn wsL_law (va_wsS RL 172 yL_isError wsL_isError) := goodIn_app (goodIn_of _ (by decide +kernel)) ggL_law_L_isError
set_option maxRecDepth 20000 in
theorem ggL_law_L_up : GoodIn wsL_law wsL_up := goodIn_r _ [266, 267] (by decide +kernel) (by decide +kernel)
set_option maxRecDepth 20000 in
theorem gL_law_L_up : GoodIn wsL_law (va_wsS RL 60 yL_up wsL_up) := goodIn_app (goodIn_of _ (by decide +kernel)) ggL_law_L_up
set_option maxRecDepth 20000 in
theorem ggL_law_L_isHealed : GoodIn wsL_law wsL_isHealed := goodIn_r _ [488, 239, 240, 73, 241, 242, 243, 95, 96, 97, 2, 98, 12, 244, 245, 246, 247, 248, 249, 250, 251, 84, 85, 86, 87, 81, 82, 83, 77, 78, 79, 80, 88, 89, 90, 91, 107, 108, 109, 110, 111, 11, 112, 113, 34, 114, 115, 116, 117, 252, 253, 254, 255, 131, 132, 133, 134, 122, 123, 124, 125, 126, 127, 128, 129, 130, 118, 119, 120, 121, 135, 136, 137, 138, 256, 257, 258, 259, 139, 140, 141, 142, 489, 490, 491, 492, 493, 352, 353, 175, 176, 177, 24, 178, 179, 180, 181, 182, 48, 494, 495, 496, 497, 187, 188, 189, 190, 191, 192, 193, 30, 31, 194, 195, 358, 359, 360, 361, 17, 272, 273, 274, 16, 275, 63, 210, 209, 211, 212, 213, 214, 32, 36, 215, 216, 217, 218, 38, 37, 42, 106, 219, 220, 221, 222, 223, 47, 224, 49, 225, 226, 227, 228, 229, 230, 41, 231, 57, 232, 233, 234, 362, 363, 364, 365, 304, 305, 306, 307, 308, 309, 310, 311, 312, 281, 282, 283, 284, 285, 286, 287, 288, 289, 290, 291, 292, 293, 201, 202, 203, 204, 205, 206, 207, 208, 390, 391, 392, 393, 394, 395, 396, 397, 398, 399, 400, 401, 317, 318, 319, 320, 321, 322, 164, 323, 430, 431, 432, 433, 434, 435, 436, 437, 475, 476, 477, 478, 479, 480, 481, 482, 446, 447, 448, 449, 450, 451, 452, 453, 454, 455, 456, 457, 458, 340, 341, 342, 343, 414, 415, 416, 417, 418, 419, 420, 421, 313, 314, 315, 316, 324, 325, 326, 327, 382, 383, 384, 385, 386, 387, 388, 389, 337, 338, 339, 501, 502, 503, 504, 505, 506, 507, 508, 509, 510, 511, 512, 513, 514, 515, 528, 529, 530, 525, 526, 527, 516, 517, 518] (by decide +kernel) (by decide +kernel)
set_option maxRecDepth 20000 in
theorem gL_law_L_isHealed : GoodIn wsL_law (va_wsS RL 176 yL_isHealed wsL_isHealed) := goodIn_app (goodIn_of _ (by decide +kernel)) ggL_law_L_isHealed
set_option maxRecDepth 20000 in
theorem ggL_law_L_isCopied : GoodIn wsL_law wsL_isCopied := goodIn_r _ [500, 139, 140, 141, 2, 142, 12, 122, 123, 124, 239, 240, 73, 241, 242, 243, 95, 96, 97, 98, 244, 245, 246, 247, 248, 249, 250, 251, 84, 85, 86, 87, 81, 82, 83, 77, 78, 79, 80, 88, 89, 90, 91, 107, 108, 109, 110, 111, 11, 112, 113, 34, 114, 115, 116, 117, 252, 253, 254, 255, 131, 132, 133, 134, 125, 126, 127, 128, 129, 130, 118, 119, 120, 121, 135, 136, 137, 138, 256, 257, 258, 259, 390, 391, 392, 393, 17, 272, 273, 274, 16, 275, 63, 210, 209, 211, 212, 213, 214, 30, 31, 32, 36, 215, 216, 217, 218, 38, 37, 42, 106, 219, 220, 221, 222, 24, 223, 47, 224, 48, 49, 225, 226, 227, 228, 229, 230, 41, 231, 57, 232, 233, 234, 394, 395, 396, 397, 398, 399, 400, 401, 304, 305, 306, 307, 190, 191, 192, 193, 194, 180, 181, 182, 195, 308, 309, 310, 311, 312, 281, 282, 283, 317, 318, 319, 320, 321, 322, 164, 323, 179, 284, 285, 286, 287, 288, 289, 290, 291, 292, 293, 475, 476, 477, 478, 479, 480, 481, 482, 446, 447, 448, 449, 450, 451, 452, 453, 454, 455, 456, 457, 458, 340, 341, 342, 343, 201, 202, 203, 204, 205, 206, 207, 208, 501, 502, 503, 504, 505, 506, 507, 508, 509, 510, 511, 512, 513, 514, 515, 528, 529, 530, 525, 526, 527, 516, 517, 518] (by decide +kernel) (by decide +kernel)
set_option maxRecDepth 20000 in
theorem gL_law_L_isCopied : GoodIn wsL_law (va_wsS RL 180 yL_isCopied wsL_isCopied) := goodIn_app (goodIn_of _ (by decide +kernel)) ggL_law_L_isCopied
theorem dL_law_0 : decode cL_law 0 = .ok (.new 12, 3) := by decide +kernel
theorem dL_law_3 : decode cL_law 3 = .ok (.dup, 1) := by decide +kernel
theorem dL_law_4 : decode cL_law 4 = .ok (.invokespecial 159, 3) := by decide +kernel
theorem dL_law_7 : decode cL_law 7 = .ok (.astore_n 1, 1) := by decide +kernel
theorem dL_law_8 : decode cL_law 8 = .ok (.aload_n 1, 1) := by decide +kernel
theorem dL_law_9 : decode cL_law 9 = .ok (.invokestatic 160, 3) := by decide +kernel
theorem dL_law_12 : decode cL_law 12 = .ok (.ifCond .eq 16, 3) := by decide +kernel
theorem dL_law_15 : decode cL_law 15 = .ok (.aload_n 1, 1) := by decide +kernel
theorem dL_law_16 : decode cL_law 16 = .ok (.invokevirtual 156, 3) := by decide +kernel
theorem dL_law_19 : decode cL_law 19 = .ok (.bipush (-6), 2) := by decide +kernel
theorem dL_law_21 : decode cL_law 21 = .ok (.if_icmp .ne 7, 3) := by decide +kernel
theorem dL_law_24 : decode cL_law 24 = .ok (.iconst 1, 1) := by decide +kernel
theorem dL_law_25 : decode cL_law 25 = .ok (.goto 4, 3) := by decide +kernel
theorem dL_law_28 : decode cL_law 28 = .ok (.iconst 0, 1) := by decide +kernel
theorem dL_law_29 : decode cL_law 29 = .ok (.istore_n 2, 1) := by decide +kernel
theorem dL_law_30 : decode cL_law 30 = .ok (.iconst 0, 1) := by decide +kernel
theorem dL_law_31 : decode cL_law 31 = .ok (.istore_n 3, 1) := by decide +kernel
theorem dL_law_32 : decode cL_law 32 = .ok (.iload_n 3, 1) := by decide +kernel
theorem dL_law_33 : decode cL_law 33 = .ok (.bipush 60, 2) := by decide +kernel
theorem dL_law_35 : decode cL_law 35 = .ok (.if_icmp .ge 262, 3) := by decide +kernel
theorem dL_law_38 : decode cL_law 38 = .ok (.iload_n 2, 1) := by decide +kernel
theorem dL_law_39 : decode cL_law 39 = .ok (.ifCond .eq 258, 3) := by decide +kernel
theorem dL_law_42 : decode cL_law 42 = .ok (.aload_n 0, 1) := by decide +kernel
theorem dL_law_43 : decode cL_law 43 = .ok (.iconst 2, 1) := by decide +kernel
theorem dL_law_44 : decode cL_law 44 = .ok (.iload_n 3, 1) := by decide +kernel
theorem dL_law_45 : decode cL_law 45 = .ok (.imul, 1) := by decide +kernel
theorem dL_law_46 : decode cL_law 46 = .ok (.invokestatic 164, 3) := by decide +kernel
theorem dL_law_49 : decode cL_law 49 = .ok (.istore 4, 2) := by decide +kernel
theorem dL_law_51 : decode cL_law 51 = .ok (.aload_n 0, 1) := by decide +kernel
theorem dL_law_52 : decode cL_law 52 = .ok (.iconst 2, 1) := by decide +kernel
theorem dL_law_53 : decode cL_law 53 = .ok (.iload_n 3, 1) := by decide +kernel
theorem dL_law_54 : decode cL_law 54 = .ok (.imul, 1) := by decide +kernel
theorem dL_law_55 : decode cL_law 55 = .ok (.iconst 1, 1) := by decide +kernel
theorem dL_law_56 : decode cL_law 56 = .ok (.iadd, 1) := by decide +kernel
theorem dL_law_57 : decode cL_law 57 = .ok (.invokestatic 164, 3) := by decide +kernel
theorem dL_law_60 : decode cL_law 60 = .ok (.istore 5, 2) := by decide +kernel
theorem dL_law_62 : decode cL_law 62 = .ok (.aload_n 1, 1) := by decide +kernel
theorem dL_law_63 : decode cL_law 63 = .ok (.invokestatic 146, 3) := by decide +kernel
theorem dL_law_66 : decode cL_law 66 = .ok (.lstore 6, 2) := by decide +kernel
theorem dL_law_68 : decode cL_law 68 = .ok (.aload_n 1, 1) := by decide +kernel
theorem dL_law_69 : decode cL_law 69 = .ok (.invokevirtual 19, 3) := by decide +kernel
theorem dL_law_72 : decode cL_law 72 = .ok (.istore 8, 2) := by decide +kernel
theorem dL_law_74 : decode cL_law 74 = .ok (.aload_n 1, 1) := by decide +kernel
theorem dL_law_75 : decode cL_law 75 = .ok (.iload 4, 2) := by decide +kernel
theorem dL_law_77 : decode cL_law 77 = .ok (.iload 5, 2) := by decide +kernel
theorem dL_law_79 : decode cL_law 79 = .ok (.invokestatic 168, 3) := by decide +kernel
theorem dL_law_82 : decode cL_law 82 = .ok (.istore 9, 2) := by decide +kernel
theorem dL_law_84 : decode cL_law 84 = .ok (.iload 9, 2) := by decide +kernel
theorem dL_law_86 : decode cL_law 86 = .ok (.invokestatic 172, 3) := by decide +kernel
theorem dL_law_89 : decode cL_law 89 = .ok (.ifCond .eq 21, 3) := by decide +kernel
theorem dL_law_92 : decode cL_law 92 = .ok (.aload_n 1, 1) := by decide +kernel
theorem dL_law_93 : decode cL_law 93 = .ok (.invokestatic 146, 3) := by decide +kernel
theorem dL_law_96 : decode cL_law 96 = .ok (.lload 6, 2) := by decide +kernel
theorem dL_law_98 : decode cL_law 98 = .ok (.lcmp, 1) := by decide +kernel
theorem dL_law_99 : decode cL_law 99 = .ok (.ifCond .ne 7, 3) := by decide +kernel
theorem dL_law_102 : decode cL_law 102 = .ok (.iconst 1, 1) := by decide +kernel
theorem dL_law_103 : decode cL_law 103 = .ok (.goto 32, 3) := by decide +kernel
theorem dL_law_106 : decode cL_law 106 = .ok (.iconst 0, 1) := by decide +kernel
theorem dL_law_107 : decode cL_law 107 = .ok (.goto 28, 3) := by decide +kernel
theorem dL_law_110 : decode cL_law 110 = .ok (.aload_n 1, 1) := by decide +kernel
theorem dL_law_111 : decode cL_law 111 = .ok (.invokevirtual 19, 3) := by decide +kernel
theorem dL_law_114 : decode cL_law 114 = .ok (.iload 8, 2) := by decide +kernel
theorem dL_law_116 : decode cL_law 116 = .ok (.if_icmp .eq 14, 3) := by decide +kernel
theorem dL_law_119 : decode cL_law 119 = .ok (.aload_n 1, 1) := by decide +kernel
theorem dL_law_120 : decode cL_law 120 = .ok (.invokevirtual 19, 3) := by decide +kernel
theorem dL_law_123 : decode cL_law 123 = .ok (.iload 8, 2) := by decide +kernel
theorem dL_law_125 : decode cL_law 125 = .ok (.iconst 1, 1) := by decide +kernel
theorem dL_law_126 : decode cL_law 126 = .ok (.iadd, 1) := by decide +kernel
theorem dL_law_127 : decode cL_law 127 = .ok (.if_icmp .ne 7, 3) := by decide +kernel
theorem dL_law_130 : decode cL_law 130 = .ok (.iconst 1, 1) := by decide +kernel
theorem dL_law_131 : decode cL_law 131 = .ok (.goto 4, 3) := by decide +kernel
theorem dL_law_134 : decode cL_law 134 = .ok (.iconst 0, 1) := by decide +kernel
theorem dL_law_135 : decode cL_law 135 = .ok (.istore_n 2, 1) := by decide +kernel
theorem dL_law_136 : decode cL_law 136 = .ok (.iload_n 2, 1) := by decide +kernel
theorem dL_law_137 : decode cL_law 137 = .ok (.ifCond .eq 73, 3) := by decide +kernel
theorem dL_law_140 : decode cL_law 140 = .ok (.iload 9, 2) := by decide +kernel
theorem dL_law_142 : decode cL_law 142 = .ok (.invokestatic 172, 3) := by decide +kernel
theorem dL_law_145 : decode cL_law 145 = .ok (.ifCond .ne 65, 3) := by decide +kernel
theorem dL_law_148 : decode cL_law 148 = .ok (.iload 4, 2) := by decide +kernel
theorem dL_law_150 : decode cL_law 150 = .ok (.bipush 8, 2) := by decide +kernel
theorem dL_law_152 : decode cL_law 152 = .ok (.ishr, 1) := by decide +kernel
theorem dL_law_153 : decode cL_law 153 = .ok (.iconst 3, 1) := by decide +kernel
theorem dL_law_154 : decode cL_law 154 = .ok (.iand, 1) := by decide +kernel
theorem dL_law_155 : decode cL_law 155 = .ok (.ifCond .ne 55, 3) := by decide +kernel
theorem dL_law_158 : decode cL_law 158 = .ok (.aload_n 1, 1) := by decide +kernel
theorem dL_law_159 : decode cL_law 159 = .ok (.invokestatic 146, 3) := by decide +kernel
theorem dL_law_162 : decode cL_law 162 = .ok (.lstore 10, 2) := by decide +kernel
theorem dL_law_164 : decode cL_law 164 = .ok (.aload_n 1, 1) := by decide +kernel
theorem dL_law_165 : decode cL_law 165 = .ok (.invokevirtual 156, 3) := by decide +kernel
theorem dL_law_168 : decode cL_law 168 = .ok (.ifCond .lt 40, 3) := by decide +kernel
theorem dL_law_171 : decode cL_law 171 = .ok (.aload_n 1, 1) := by decide +kernel
theorem dL_law_172 : decode cL_law 172 = .ok (.invokestatic 146, 3) := by decide +kernel
theorem dL_law_175 : decode cL_law 175 = .ok (.lload 6, 2) := by decide +kernel
theorem dL_law_177 : decode cL_law 177 = .ok (.lcmp, 1) := by decide +kernel
theorem dL_law_178 : decode cL_law 178 = .ok (.ifCond .ne 30, 3) := by decide +kernel
theorem dL_law_181 : decode cL_law 181 = .ok (.aload_n 1, 1) := by decide +kernel
theorem dL_law_182 : decode cL_law 182 = .ok (.iload 4, 2) := by decide +kernel
theorem dL_law_184 : decode cL_law 184 = .ok (.iload 5, 2) := by decide +kernel
theorem dL_law_186 : decode cL_law 186 = .ok (.invokestatic 168, 3) := by decide +kernel
theorem dL_law_189 : decode cL_law 189 = .ok (.iload 9, 2) := by decide +kernel
theorem dL_law_191 : decode cL_law 191 = .ok (.if_icmp .ne 17, 3) := by decide +kernel
theorem dL_law_194 : decode cL_law 194 = .ok (.aload_n 1, 1) := by decide +kernel
theorem dL_law_195 : decode cL_law 195 = .ok (.invokestatic 146, 3) := by decide +kernel
theorem dL_law_198 : decode cL_law 198 = .ok (.lload 10, 2) := by decide +kernel
theorem dL_law_200 : decode cL_law 200 = .ok (.lcmp, 1) := by decide +kernel
theorem dL_law_201 : decode cL_law 201 = .ok (.ifCond .ne 7, 3) := by decide +kernel
theorem dL_law_204 : decode cL_law 204 = .ok (.iconst 1, 1) := by decide +kernel
theorem dL_law_205 : decode cL_law 205 = .ok (.goto 4, 3) := by decide +kernel
theorem dL_law_208 : decode cL_law 208 = .ok (.iconst 0, 1) := by decide +kernel
theorem dL_law_209 : decode cL_law 209 = .ok (.istore_n 2, 1) := by decide +kernel
theorem dL_law_210 : decode cL_law 210 = .ok (.iload_n 2, 1) := by decide +kernel
theorem dL_law_211 : decode cL_law 211 = .ok (.ifCond .eq 78, 3) := by decide +kernel
theorem dL_law_214 : decode cL_law 214 = .ok (.aload_n 1, 1) := by decide +kernel
theorem dL_law_215 : decode cL_law 215 = .ok (.invokestatic 160, 3) := by decide +kernel
theorem dL_law_218 : decode cL_law 218 = .ok (.ifCond .eq 71, 3) := by decide +kernel
theorem dL_law_221 : decode cL_law 221 = .ok (.iload_n 3, 1) := by decide +kernel
theorem dL_law_222 : decode cL_law 222 = .ok (.iconst 3, 1) := by decide +kernel
theorem dL_law_223 : decode cL_law 223 = .ok (.irem, 1) := by decide +kernel
theorem dL_law_224 : decode cL_law 224 = .ok (.iconst 1, 1) := by decide +kernel
theorem dL_law_225 : decode cL_law 225 = .ok (.if_icmp .ne 19, 3) := by decide +kernel
theorem dL_law_228 : decode cL_law 228 = .ok (.aload_n 1, 1) := by decide +kernel
theorem dL_law_229 : decode cL_law 229 = .ok (.iload 4, 2) := by decide +kernel
theorem dL_law_231 : decode cL_law 231 = .ok (.iconst 5, 1) := by decide +kernel
theorem dL_law_232 : decode cL_law 232 = .ok (.ishr, 1) := by decide +kernel
theorem dL_law_233 : decode cL_law 233 = .ok (.bipush 8, 2) := by decide +kernel
theorem dL_law_235 : decode cL_law 235 = .ok (.invokestatic 60, 3) := by decide +kernel
theorem dL_law_238 : decode cL_law 238 = .ok (.invokestatic 176, 3) := by decide +kernel
theorem dL_law_241 : decode cL_law 241 = .ok (.ifCond .eq 48, 3) := by decide +kernel
theorem dL_law_244 : decode cL_law 244 = .ok (.iload_n 3, 1) := by decide +kernel
theorem dL_law_245 : decode cL_law 245 = .ok (.iconst 4, 1) := by decide +kernel
theorem dL_law_246 : decode cL_law 246 = .ok (.irem, 1) := by decide +kernel
theorem dL_law_247 : decode cL_law 247 = .ok (.iconst 2, 1) := by decide +kernel
theorem dL_law_248 : decode cL_law 248 = .ok (.if_icmp .ne 37, 3) := by decide +kernel
theorem dL_law_251 : decode cL_law 251 = .ok (.aload_n 1, 1) := by decide +kernel
theorem dL_law_252 : decode cL_law 252 = .ok (.iload 4, 2) := by decide +kernel
theorem dL_law_254 : decode cL_law 254 = .ok (.bipush 6, 2) := by decide +kernel
theorem dL_law_256 : decode cL_law 256 = .ok (.ishr, 1) := by decide +kernel
theorem dL_law_257 : decode cL_law 257 = .ok (.iconst 4, 1) := by decide +kernel
theorem dL_law_258 : decode cL_law 258 = .ok (.invokestatic 60, 3) := by decide +kernel
theorem dL_law_261 : decode cL_law 261 = .ok (.iload 4, 2) := by decide +kernel
theorem dL_law_263 : decode cL_law 263 = .ok (.bipush 8, 2) := by decide +kernel
theorem dL_law_265 : decode cL_law 265 = .ok (.ishr, 1) := by decide +kernel
theorem dL_law_266 : decode cL_law 266 = .ok (.iconst 4, 1) := by decide +kernel
theorem dL_law_267 : decode cL_law 267 = .ok (.invokestatic 60, 3) := by decide +kernel
theorem dL_law_270 : decode cL_law 270 = .ok (.iload 5, 2) := by decide +kernel
theorem dL_law_272 : decode cL_law 272 = .ok (.iconst 3, 1) := by decide +kernel
theorem dL_law_273 : decode cL_law 273 = .ok (.ishr, 1) := by decide +kernel
theorem dL_law_274 : decode cL_law 274 = .ok (.bipush 32, 2) := by decide +kernel
theorem dL_law_276 : decode cL_law 276 = .ok (.invokestatic 60, 3) := by decide +kernel
theorem dL_law_279 : decode cL_law 279 = .ok (.invokestatic 180, 3) := by decide +kernel
theorem dL_law_282 : decode cL_law 282 = .ok (.ifCond .eq 7, 3) := by decide +kernel
theorem dL_law_285 : decode cL_law 285 = .ok (.iconst 1, 1) := by decide +kernel
theorem dL_law_286 : decode cL_law 286 = .ok (.goto 4, 3) := by decide +kernel
theorem dL_law_289 : decode cL_law 289 = .ok (.iconst 0, 1) := by decide +kernel
theorem dL_law_290 : decode cL_law 290 = .ok (.istore_n 2, 1) := by decide +kernel
theorem dL_law_291 : decode cL_law 291 = .ok (.iinc 3 1, 3) := by decide +kernel
theorem dL_law_294 : decode cL_law 294 = .ok (.goto (-262), 3) := by decide +kernel
theorem dL_law_297 : decode cL_law 297 = .ok (.iload_n 2, 1) := by decide +kernel
theorem dL_law_298 : decode cL_law 298 = .ok (.ireturn, 1) := by decide +kernel
