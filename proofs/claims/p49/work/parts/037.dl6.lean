set_option maxRecDepth 20000 in
theorem gs_law_act_0 : GoodIn wsL_law [.code yL_act cL_act 9 (some .int)] := goodIn_r _ [262] (by decide +kernel) (by decide +kernel)
set_option maxRecDepth 20000 in
theorem gs_law_wsL_act_r1 : GoodIn wsL_law wsL_act_r1 := goodIn_r _ [263, 264, 265, 73, 266, 267, 268, 269, 270, 2, 271, 17, 12, 272, 273, 274, 16, 275, 63, 210, 209, 211, 212, 213] (by decide +kernel) (by decide +kernel)
set_option maxRecDepth 20000 in
theorem gs_law_wsL_act_r2 : GoodIn wsL_law wsL_act_r2 := goodIn_r _ [11, 214, 30, 31, 32, 36, 215, 216, 217, 218, 38, 34, 37, 42, 106, 219, 220, 221, 222, 24, 223, 47, 224, 48] (by decide +kernel) (by decide +kernel)
set_option maxRecDepth 20000 in
theorem gs_law_wsL_act_r3 : GoodIn wsL_law wsL_act_r3 := goodIn_r _ [49, 225, 226, 227, 228, 229, 230, 41, 231, 57, 232, 233, 234, 276, 277, 278, 279, 82, 83, 280, 281, 282, 283, 284] (by decide +kernel) (by decide +kernel)
set_option maxRecDepth 20000 in
theorem gs_law_wsL_act_r4 : GoodIn wsL_law wsL_act_r4 := goodIn_r _ [285, 286, 287, 288, 289, 290, 291, 292, 293, 294, 295, 296, 297, 25, 298, 299, 300, 301, 302, 303, 304, 305, 306, 307] (by decide +kernel) (by decide +kernel)
set_option maxRecDepth 20000 in
theorem gs_law_wsL_act_r5 : GoodIn wsL_law wsL_act_r5 := goodIn_r _ [190, 191, 192, 193, 194, 180, 181, 182, 195, 111, 112, 113, 308, 309, 310, 311, 312, 313, 314, 315, 316, 317, 318, 319] (by decide +kernel) (by decide +kernel)
set_option maxRecDepth 20000 in
theorem gs_law_wsL_act_r6 : GoodIn wsL_law wsL_act_r6 := goodIn_r _ [320, 321, 322, 164, 323, 179, 324, 325, 326, 327, 328, 176, 177, 178, 329, 330, 331, 332, 333, 334, 335, 336, 337, 338] (by decide +kernel) (by decide +kernel)
set_option maxRecDepth 20000 in
theorem gs_law_wsL_act_r7 : GoodIn wsL_law wsL_act_r7 := goodIn_r _ [339, 340, 341, 342, 343, 344, 345, 346, 347, 348, 349, 350, 351, 352, 353, 354, 355, 356, 357, 358, 359, 360, 361, 362] (by decide +kernel) (by decide +kernel)
set_option maxRecDepth 20000 in
theorem gs_law_wsL_act_r8 : GoodIn wsL_law wsL_act_r8 := goodIn_r _ [363, 364, 365, 366, 367, 368, 369, 370, 371, 372, 373, 123, 124, 374, 375, 376, 377, 378, 379, 380, 381, 129, 130, 382] (by decide +kernel) (by decide +kernel)
set_option maxRecDepth 20000 in
theorem gs_law_wsL_act_r9 : GoodIn wsL_law wsL_act_r9 := goodIn_r _ [383, 384, 385, 386, 387, 388, 389, 126, 127, 390, 391, 392, 393, 394, 395, 396, 397, 398, 399, 400, 401, 402, 403, 404] (by decide +kernel) (by decide +kernel)
set_option maxRecDepth 20000 in
theorem gs_law_wsL_act_r10 : GoodIn wsL_law wsL_act_r10 := goodIn_r _ [405, 406, 407, 408, 409, 410, 411, 412, 413, 414, 415, 416, 417, 418, 419, 420, 421, 422, 423, 424, 425, 426, 427, 428] (by decide +kernel) (by decide +kernel)
set_option maxRecDepth 20000 in
theorem gs_law_wsL_act_r11 : GoodIn wsL_law wsL_act_r11 := goodIn_r _ [429, 430, 431, 432, 433, 434, 435, 436, 437, 438, 439, 440, 441, 442, 443, 444, 445, 446, 447, 448, 449, 450, 451, 452] (by decide +kernel) (by decide +kernel)
set_option maxRecDepth 20000 in
theorem gs_law_wsL_act_r12 : GoodIn wsL_law wsL_act_r12 := goodIn_r _ [453, 454, 455, 456, 457, 458, 459, 460, 461, 462, 463, 464, 465, 466, 467, 468, 469, 470, 471, 472, 473, 474, 475, 476] (by decide +kernel) (by decide +kernel)
set_option maxRecDepth 20000 in
theorem gs_law_wsL_act_r13 : GoodIn wsL_law wsL_act_r13 := goodIn_r _ [477, 478, 479, 480, 481, 482] (by decide +kernel) (by decide +kernel)
set_option maxRecDepth 20000 in
theorem gs_law_wsX50 : GoodIn wsL_law wsX50 := goodIn_r _ [501, 502, 503, 504, 505] (by decide +kernel) (by decide +kernel)
set_option maxRecDepth 20000 in
theorem gs_law_wsX20 : GoodIn wsL_law wsX20 := goodIn_r _ [516, 517, 518] (by decide +kernel) (by decide +kernel)
set_option maxRecDepth 20000 in
theorem gs_law_wsX30 : GoodIn wsL_law wsX30 := goodIn_r _ [506, 507, 508, 509, 510, 511, 512, 513, 514, 515] (by decide +kernel) (by decide +kernel)
set_option maxRecDepth 20000 in
theorem gs_law_wsX00 : GoodIn wsL_law wsX00 := goodIn_r _ [525, 526, 527] (by decide +kernel) (by decide +kernel)
set_option maxRecDepth 20000 in
theorem gs_law_wsX10 : GoodIn wsL_law wsX10 := goodIn_r _ [528, 529, 530] (by decide +kernel) (by decide +kernel)
set_option maxRecDepth 20000 in
theorem ggL_law_L_act : GoodIn wsL_law wsL_act := fun w h => (List.mem_cons.mp h).elim (fun e => gs_law_act_0 w (List.mem_cons.mpr (Or.inl e))) ((goodIn_app (goodIn_app (goodIn_app (goodIn_app (goodIn_app (goodIn_app gs_law_wsL_act_r1 (goodIn_app gs_law_wsL_act_r2 (goodIn_app gs_law_wsL_act_r3 (goodIn_app gs_law_wsL_act_r4 (goodIn_app gs_law_wsL_act_r5 (goodIn_app gs_law_wsL_act_r6 (goodIn_app gs_law_wsL_act_r7 (goodIn_app gs_law_wsL_act_r8 (goodIn_app gs_law_wsL_act_r9 (goodIn_app gs_law_wsL_act_r10 (goodIn_app gs_law_wsL_act_r11 (goodIn_app gs_law_wsL_act_r12 gs_law_wsL_act_r13)))))))))))) gs_law_wsX50) gs_law_wsX20) gs_law_wsX30) gs_law_wsX00) gs_law_wsX10) w)
set_option maxRecDepth 20000 in
theorem gL_law_L_act : GoodIn wsL_law (va_wsS RL 168 yL_act wsL_act) := goodIn_app (goodIn_of _ (by decide +kernel)) ggL_law_L_act
set_option maxRecDepth 20000 in
theorem ggL_law_L_isError : GoodIn wsL_law wsL_isError := goodIn_r _ [485] (by decide +kernel) (by decide +kernel)
set_option maxRecDepth 20000 in
theorem gL_law_L_isError : GoodIn wsL_law (va_wsS RL 172 yL_isError wsL_isError) := goodIn_app (goodIn_of _ (by decide +kernel)) ggL_law_L_isError
set_option maxRecDepth 20000 in
theorem ggL_law_L_up : GoodIn wsL_law wsL_up := goodIn_r _ [266, 267] (by decide +kernel) (by decide +kernel)
set_option maxRecDepth 20000 in
theorem gL_law_L_up : GoodIn wsL_law (va_wsS RL 60 yL_up wsL_up) := goodIn_app (goodIn_of _ (by decide +kernel)) ggL_law_L_up
