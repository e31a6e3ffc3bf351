set_option maxRecDepth 20000 in
theorem gs_law_isHealed_0 : GoodIn wsL_law [.code yL_isHealed cL_isHealed 10 (some .boolean)] := goodIn_r _ [488] (by decide +kernel) (by decide +kernel)
set_option maxRecDepth 20000 in
theorem gs_law_wsL_isHealed_r1 : GoodIn wsL_law wsL_isHealed_r1 := goodIn_r _ [239, 240, 73, 241, 242, 243, 95, 96, 97, 2, 98, 12, 244, 245, 246, 247, 248, 249, 250, 251, 84, 85, 86, 87] (by decide +kernel) (by decide +kernel)
set_option maxRecDepth 20000 in
theorem gs_law_wsL_isHealed_r2 : GoodIn wsL_law wsL_isHealed_r2 := goodIn_r _ [81, 82, 83, 77, 78, 79, 80, 88, 89, 90, 91, 107, 108, 109, 110, 111, 11, 112, 113, 34, 114, 115, 116, 117] (by decide +kernel) (by decide +kernel)
set_option maxRecDepth 20000 in
theorem gs_law_wsL_isHealed_r3 : GoodIn wsL_law wsL_isHealed_r3 := goodIn_r _ [252, 253, 254, 255, 131, 132, 133, 134, 122, 123, 124, 125, 126, 127, 128, 129, 130, 118, 119, 120, 121, 135, 136, 137] (by decide +kernel) (by decide +kernel)
set_option maxRecDepth 20000 in
theorem gs_law_wsL_isHealed_r4 : GoodIn wsL_law wsL_isHealed_r4 := goodIn_r _ [138, 256, 257, 258, 259, 139, 140, 141, 142, 489, 490, 491, 492, 493, 352, 353, 175, 176, 177, 24, 178, 179, 180, 181] (by decide +kernel) (by decide +kernel)
set_option maxRecDepth 20000 in
theorem gs_law_wsL_isHealed_r5 : GoodIn wsL_law wsL_isHealed_r5 := goodIn_r _ [182, 48, 494, 495, 496, 497, 187, 188, 189, 190, 191, 192, 193, 30, 31, 194, 195, 358, 359, 360, 361, 17, 272, 273] (by decide +kernel) (by decide +kernel)
set_option maxRecDepth 20000 in
theorem gs_law_wsL_isHealed_r6 : GoodIn wsL_law wsL_isHealed_r6 := goodIn_r _ [274, 16, 275, 63, 210, 209, 211, 212, 213, 214, 32, 36, 215, 216, 217, 218, 38, 37, 42, 106, 219, 220, 221, 222] (by decide +kernel) (by decide +kernel)
set_option maxRecDepth 20000 in
theorem gs_law_wsL_isHealed_r7 : GoodIn wsL_law wsL_isHealed_r7 := goodIn_r _ [223, 47, 224, 49, 225, 226, 227, 228, 229, 230, 41, 231, 57, 232, 233, 234, 362, 363, 364, 365, 304, 305, 306, 307] (by decide +kernel) (by decide +kernel)
set_option maxRecDepth 20000 in
theorem gs_law_wsL_isHealed_r8 : GoodIn wsL_law wsL_isHealed_r8 := goodIn_r _ [308, 309, 310, 311, 312, 281, 282, 283, 284, 285, 286, 287, 288, 289, 290, 291, 292, 293, 201, 202, 203, 204, 205, 206] (by decide +kernel) (by decide +kernel)
set_option maxRecDepth 20000 in
theorem gs_law_wsL_isHealed_r9 : GoodIn wsL_law wsL_isHealed_r9 := goodIn_r _ [207, 208, 390, 391, 392, 393, 394, 395, 396, 397, 398, 399, 400, 401, 317, 318, 319, 320, 321, 322, 164, 323, 430, 431] (by decide +kernel) (by decide +kernel)
set_option maxRecDepth 20000 in
theorem gs_law_wsL_isHealed_r10 : GoodIn wsL_law wsL_isHealed_r10 := goodIn_r _ [432, 433, 434, 435, 436, 437, 475, 476, 477, 478, 479, 480, 481, 482, 446, 447, 448, 449, 450, 451, 452, 453, 454, 455] (by decide +kernel) (by decide +kernel)
set_option maxRecDepth 20000 in
theorem gs_law_wsL_isHealed_r11 : GoodIn wsL_law wsL_isHealed_r11 := goodIn_r _ [456, 457, 458, 340, 341, 342, 343, 414, 415, 416, 417, 418, 419, 420, 421, 313, 314, 315, 316, 324, 325, 326, 327, 382] (by decide +kernel) (by decide +kernel)
set_option maxRecDepth 20000 in
theorem gs_law_wsL_isHealed_r12 : GoodIn wsL_law wsL_isHealed_r12 := goodIn_r _ [383, 384, 385, 386, 387, 388, 389, 337, 338, 339] (by decide +kernel) (by decide +kernel)
set_option maxRecDepth 20000 in
theorem ggL_law_L_isHealed : GoodIn wsL_law wsL_isHealed := fun w h => (List.mem_cons.mp h).elim (fun e => gs_law_isHealed_0 w (List.mem_cons.mpr (Or.inl e))) ((goodIn_app (goodIn_app (goodIn_app (goodIn_app (goodIn_app (goodIn_app gs_law_wsL_isHealed_r1 (goodIn_app gs_law_wsL_isHealed_r2 (goodIn_app gs_law_wsL_isHealed_r3 (goodIn_app gs_law_wsL_isHealed_r4 (goodIn_app gs_law_wsL_isHealed_r5 (goodIn_app gs_law_wsL_isHealed_r6 (goodIn_app gs_law_wsL_isHealed_r7 (goodIn_app gs_law_wsL_isHealed_r8 (goodIn_app gs_law_wsL_isHealed_r9 (goodIn_app gs_law_wsL_isHealed_r10 (goodIn_app gs_law_wsL_isHealed_r11 gs_law_wsL_isHealed_r12))))))))))) gs_law_wsX50) gs_law_wsX30) gs_law_wsX10) gs_law_wsX00) gs_law_wsX20) w)
set_option maxRecDepth 20000 in
theorem gL_law_L_isHealed : GoodIn wsL_law (va_wsS RL 176 yL_isHealed wsL_isHealed) := goodIn_app (goodIn_of _ (by decide +kernel)) ggL_law_L_isHealed
