set_option maxRecDepth 20000 in
theorem ggL_law_X5_init : GoodIn wsL_law wsX5_init := goodIn_r _ [8, 9, 10, 11, 12, 13, 14, 15, 16, 17, 18, 19, 20, 21, 22, 23, 24, 25, 26, 27, 28, 29, 30, 31, 32, 33, 34, 35, 36, 37, 38, 39, 40, 41, 42, 43, 44, 45, 46, 47, 48, 49, 50, 51, 52, 53, 54, 55, 56, 57, 58, 59, 60, 61, 62, 63, 64, 65, 66, 67, 68, 69, 70, 71, 72, 73, 1002, 1003, 1004, 1005, 1006, 1007, 1008, 1009, 1010, 1011, 989, 990, 991, 992, 993, 1012, 1013, 1014, 1015, 1016, 1017, 1018, 1019, 1020, 1021, 1022, 1023, 1024, 1025, 1026] (by decide +kernel) (by decide +kernel)
set_option maxRecDepth 20000 in
theorem gL_law_X5_init : GoodIn wsL_law (wsX5_init) := ggL_law_X5_init
set_option maxRecDepth 20000 in
theorem ggL_law_X6_init : GoodIn wsL_law wsX6_init := goodIn_r _ [76, 77, 10, 11, 38, 78, 79, 80, 81, 994, 995, 996, 997, 998, 999, 1000, 1001] (by decide +kernel) (by decide +kernel)
set_option maxRecDepth 20000 in
theorem gL_law_X6_init : GoodIn wsL_law (wsX6_init) := ggL_law_X6_init
set_option maxRecDepth 20000 in
theorem ggL_law_X5_inject : GoodIn wsL_law wsX5_inject := goodIn_r _ [85, 20, 15, 86, 87, 88, 19, 89, 66, 90, 91, 92, 93, 94, 14, 95, 33, 34, 35, 39, 96, 97, 98, 99, 41, 37, 40, 45, 100, 101, 102, 103, 104, 27, 105, 50, 106, 51, 52, 107, 108, 109, 110, 111, 112, 44, 113, 60, 114, 115, 116, 117, 118, 119, 120, 121, 2, 122, 123, 124, 125, 126, 127, 128, 129, 130, 131, 132, 133, 134, 135, 136, 989, 990, 991, 992, 993, 1012, 1013, 1014, 1002, 1003, 1004, 1005, 1006, 1007, 1008, 1009, 1010, 1011, 1021, 1022, 1023, 1024, 1025, 1026] (by decide +kernel) (by decide +kernel)
set_option maxRecDepth 20000 in
theorem gL_law_X5_inject : GoodIn wsL_law (wsV RL 13 RX5 yX5_inject wsX5_inject) := goodIn_app (goodIn_of _ (by decide +kernel)) ggL_law_X5_inject
set_option maxRecDepth 20000 in
theorem ggL_law_X6_inject : GoodIn wsL_law wsX6_inject := goodIn_r _ [140, 141, 142, 5, 143, 144, 145, 146, 147, 148, 149, 150, 151, 152, 153, 154, 78, 155, 156, 157, 158, 159, 160, 161, 162, 163, 164, 165, 166, 167, 168, 169, 170, 171, 172, 173, 994, 995, 996, 997, 998, 999, 1000, 1001] (by decide +kernel) (by decide +kernel)
set_option maxRecDepth 20000 in
theorem gL_law_X6_inject : GoodIn wsL_law (wsV RL 17 RX6 yX6_inject wsX6_inject) := goodIn_app (goodIn_of _ (by decide +kernel)) ggL_law_X6_inject
set_option maxRecDepth 20000 in
theorem ggL_law_X5_copyBlock : GoodIn wsL_law wsX5_copyBlock := goodIn_r _ [177, 20, 15, 28, 86, 87, 88, 19, 89, 66, 90, 91, 92, 93, 94, 14, 95, 33, 34, 35, 39, 96, 97, 98, 99, 41, 37, 40, 45, 100, 101, 102, 103, 104, 27, 105, 50, 106, 51, 52, 107, 108, 109, 110, 111, 112, 44, 113, 60, 114, 115, 116, 178, 179, 180, 181, 121, 2, 122, 182, 183, 184, 185, 186, 187, 188, 189, 190, 191, 192, 193, 194, 195, 196, 197, 198, 199, 200, 201, 202, 203, 204, 124, 125, 126, 205, 206, 207, 208, 209, 210, 211, 212, 213, 214, 215, 216, 217, 218, 219, 220, 221, 222, 223, 224, 225, 127, 128, 129, 130, 131, 132, 133, 134, 135, 136, 989, 990, 991, 992, 993, 1012, 1013, 1014, 1002, 1003, 1004, 1005, 1006, 1007, 1008, 1009, 1010, 1011, 1021, 1022, 1023, 1024, 1025, 1026] (by decide +kernel) (by decide +kernel)
set_option maxRecDepth 20000 in
theorem gL_law_X5_copyBlock : GoodIn wsL_law (wsV RL 18 RX5 yX5_copyBlock wsX5_copyBlock) := goodIn_app (goodIn_of _ (by decide +kernel)) ggL_law_X5_copyBlock
set_option maxRecDepth 20000 in
theorem ggL_law_X6_copyBlock : GoodIn wsL_law wsX6_copyBlock := goodIn_r _ [229, 81, 78, 141, 142, 5, 143, 144, 145, 146, 147, 148, 149, 150, 151, 152, 153, 154, 230, 231, 232, 233, 234, 235, 236, 237, 159, 160, 161, 238, 239, 240, 241, 242, 243, 244, 245, 246, 247, 248, 162, 163, 164, 165, 249, 250, 251, 252, 253, 254, 255, 166, 167, 168, 169, 170, 171, 172, 173, 994, 995, 996, 997, 998, 999, 1000, 1001] (by decide +kernel) (by decide +kernel)
set_option maxRecDepth 20000 in
theorem gL_law_X6_copyBlock : GoodIn wsL_law (wsV RL 22 RX6 yX6_copyBlock wsX6_copyBlock) := goodIn_app (goodIn_of _ (by decide +kernel)) ggL_law_X6_copyBlock
set_option maxRecDepth 20000 in
theorem ggL_law_X5_fill : GoodIn wsL_law wsX5_fill := goodIn_r _ [259, 20, 15, 86, 87, 88, 19, 89, 66, 90, 91, 92, 93, 94, 14, 95, 33, 34, 35, 39, 96, 97, 98, 99, 41, 37, 40, 45, 100, 101, 102, 103, 104, 27, 105, 50, 106, 51, 52, 107, 108, 109, 110, 111, 112, 44, 113, 60, 114, 115, 116, 260, 261, 262, 263, 121, 2, 122, 182, 183, 264, 265, 266, 222, 223, 224, 225, 217, 193, 194, 195, 267, 268, 269, 270, 204, 124, 125, 126, 218, 219, 220, 221, 196, 197, 198, 199, 200, 201, 202, 203, 127, 128, 129, 130, 131, 132, 133, 134, 135, 136, 989, 990, 991, 992, 993, 1012, 1013, 1014, 1002, 1003, 1004, 1005, 1006, 1007, 1008, 1009, 1010, 1011, 1021, 1022, 1023, 1024, 1025, 1026] (by decide +kernel) (by decide +kernel)
set_option maxRecDepth 20000 in
theorem gL_law_X5_fill : GoodIn wsL_law (wsV RL 23 RX5 yX5_fill wsX5_fill) := goodIn_app (goodIn_of _ (by decide +kernel)) ggL_law_X5_fill
set_option maxRecDepth 20000 in
theorem ggL_law_X6_fill : GoodIn wsL_law wsX6_fill := goodIn_r _ [274, 275, 141, 142, 5, 143, 144, 145, 146, 147, 148, 149, 150, 151, 152, 153, 154, 78, 159, 160, 161, 238, 239, 240, 241, 162, 163, 164, 165, 252, 253, 254, 255, 242, 243, 244, 245, 246, 247, 248, 166, 167, 168, 169, 170, 171, 172, 173, 994, 995, 996, 997, 998, 999, 1000, 1001] (by decide +kernel) (by decide +kernel)
set_option maxRecDepth 20000 in
theorem gL_law_X6_fill : GoodIn wsL_law (wsV RL 26 RX6 yX6_fill wsX6_fill) := goodIn_app (goodIn_of _ (by decide +kernel)) ggL_law_X6_fill
set_option maxRecDepth 20000 in
theorem ggL_law_X5_setMirror : GoodIn wsL_law wsX5_setMirror := goodIn_r _ [279, 20, 15, 86, 87, 88, 19, 89, 66, 90, 91, 92, 93, 94, 14, 95, 33, 34, 35, 39, 96, 97, 98, 99, 41, 37, 40, 45, 100, 101, 102, 103, 104, 27, 105, 50, 106, 51, 52, 107, 108, 109, 110, 111, 112, 44, 113, 60, 114, 115, 116, 280, 281, 282, 283, 284, 2, 285, 218, 219, 220, 221, 196, 197, 198, 199, 200, 201, 202, 203, 204, 124, 125, 126, 286, 287, 288, 289, 127, 128, 129, 130, 131, 132, 133, 134, 135, 136, 989, 990, 991, 992, 993, 1012, 1013, 1014, 1002, 1003, 1004, 1005, 1006, 1007, 1008, 1009, 1010, 1011, 1021, 1022, 1023, 1024, 1025, 1026] (by decide +kernel) (by decide +kernel)
set_option maxRecDepth 20000 in
theorem gL_law_X5_setMirror : GoodIn wsL_law (wsV RL 27 RX5 yX5_setMirror wsX5_setMirror) := goodIn_app (goodIn_of _ (by decide +kernel)) ggL_law_X5_setMirror
set_option maxRecDepth 20000 in
theorem ggL_law_X6_setMirror : GoodIn wsL_law wsX6_setMirror := goodIn_r _ [293, 78, 294, 295, 5, 296, 144, 145, 146, 147, 148, 149, 150, 151, 152, 153, 154, 252, 253, 254, 255, 159, 160, 161, 242, 243, 244, 245, 246, 247, 248, 162, 163, 164, 165, 166, 167, 168, 169, 170, 171, 172, 173, 994, 995, 996, 997, 998, 999, 1000, 1001] (by decide +kernel) (by decide +kernel)
set_option maxRecDepth 20000 in
theorem gL_law_X6_setMirror : GoodIn wsL_law (wsV RL 31 RX6 yX6_setMirror wsX6_setMirror) := goodIn_app (goodIn_of _ (by decide +kernel)) ggL_law_X6_setMirror
set_option maxRecDepth 20000 in
theorem ggL_law_X5_scrub : GoodIn wsL_law wsX5_scrub := goodIn_r _ [300, 20, 15, 86, 87, 88, 19, 89, 66, 90, 91, 92, 93, 94, 14, 95, 33, 34, 35, 39, 96, 97, 98, 99, 41, 37, 40, 45, 100, 101, 102, 103, 104, 27, 105, 50, 106, 51, 52, 107, 108, 109, 110, 111, 112, 44, 113, 60, 114, 115, 116, 301, 302, 303, 304, 284, 2, 285, 184, 185, 186, 187, 188, 189, 190, 191, 192, 193, 194, 195, 196, 197, 198, 199, 200, 201, 202, 203, 204, 124, 125, 126, 127, 128, 129, 130, 131, 132, 133, 134, 135, 136, 989, 990, 991, 992, 993, 1012, 1013, 1014, 1002, 1003, 1004, 1005, 1006, 1007, 1008, 1009, 1010, 1011, 1021, 1022, 1023, 1024, 1025, 1026] (by decide +kernel) (by decide +kernel)
set_option maxRecDepth 20000 in
theorem gL_law_X5_scrub : GoodIn wsL_law (wsV RL 32 RX5 yX5_scrub wsX5_scrub) := goodIn_app (goodIn_of _ (by decide +kernel)) ggL_law_X5_scrub
set_option maxRecDepth 20000 in
theorem ggL_law_X6_scrub : GoodIn wsL_law wsX6_scrub := goodIn_r _ [308, 294, 295, 5, 296, 144, 145, 146, 147, 148, 149, 150, 151, 152, 153, 154, 78, 230, 231, 232, 233, 234, 235, 236, 237, 159, 160, 161, 238, 239, 240, 241, 242, 243, 244, 245, 246, 247, 248, 162, 163, 164, 165, 166, 167, 168, 169, 170, 171, 172, 173, 994, 995, 996, 997, 998, 999, 1000, 1001] (by decide +kernel) (by decide +kernel)
set_option maxRecDepth 20000 in
theorem gL_law_X6_scrub : GoodIn wsL_law (wsV RL 35 RX6 yX6_scrub wsX6_scrub) := goodIn_app (goodIn_of _ (by decide +kernel)) ggL_law_X6_scrub
set_option maxRecDepth 20000 in
theorem ggL_law_X5_setMode : GoodIn wsL_law wsX5_setMode := goodIn_r _ [312, 20, 15, 86, 87, 88, 19, 89, 66, 90, 91, 92, 93, 94, 14, 95, 33, 34, 35, 39, 96, 97, 98, 99, 41, 37, 40, 45, 100, 101, 102, 103, 104, 27, 105, 50, 106, 51, 52, 107, 108, 109, 110, 111, 112, 44, 113, 60, 114, 115, 116, 313, 314, 315, 316, 317, 2, 318, 127, 128, 129, 130, 131, 132, 133, 134, 135, 136, 989, 990, 991, 992, 993, 1012, 1013, 1014, 1002, 1003, 1004, 1005, 1006, 1007, 1008, 1009, 1010, 1011, 1021, 1022, 1023, 1024, 1025, 1026] (by decide +kernel) (by decide +kernel)
set_option maxRecDepth 20000 in
theorem gL_law_X5_setMode : GoodIn wsL_law (wsV RL 36 RX5 yX5_setMode wsX5_setMode) := goodIn_app (goodIn_of _ (by decide +kernel)) ggL_law_X5_setMode
set_option maxRecDepth 20000 in
theorem ggL_law_X6_setMode : GoodIn wsL_law wsX6_setMode := goodIn_r _ [322, 78, 323, 324, 5, 325, 144, 145, 146, 147, 148, 149, 150, 151, 152, 153, 154, 166, 167, 168, 169, 170, 171, 172, 173, 994, 995, 996, 997, 998, 999, 1000, 1001] (by decide +kernel) (by decide +kernel)
set_option maxRecDepth 20000 in
theorem gL_law_X6_setMode : GoodIn wsL_law (wsV RL 40 RX6 yX6_setMode wsX6_setMode) := goodIn_app (goodIn_of _ (by decide +kernel)) ggL_law_X6_setMode
set_option maxRecDepth 20000 in
theorem ggL_law_X5_restart : GoodIn wsL_law wsX5_restart := goodIn_r _ [329, 20, 15, 86, 87, 88, 19, 89, 66, 90, 91, 92, 93, 94, 14, 95, 33, 34, 35, 39, 96, 97, 98, 99, 41, 37, 40, 45, 100, 101, 102, 103, 104, 27, 105, 50, 106, 51, 52, 107, 108, 109, 110, 111, 112, 44, 113, 60, 114, 115, 116, 330, 331, 332, 333, 317, 2, 318, 334, 335, 222, 223, 224, 225, 217, 193, 194, 195, 267, 268, 269, 270, 204, 124, 125, 126, 127, 128, 129, 130, 131, 132, 133, 134, 135, 136, 989, 990, 991, 992, 993, 1012, 1013, 1014, 1002, 1003, 1004, 1005, 1006, 1007, 1008, 1009, 1010, 1011, 1021, 1022, 1023, 1024, 1025, 1026] (by decide +kernel) (by decide +kernel)
set_option maxRecDepth 20000 in
theorem gL_law_X5_restart : GoodIn wsL_law (wsV RL 41 RX5 yX5_restart wsX5_restart) := goodIn_app (goodIn_of _ (by decide +kernel)) ggL_law_X5_restart
set_option maxRecDepth 20000 in
theorem ggL_law_X6_restart : GoodIn wsL_law wsX6_restart := goodIn_r _ [339, 78, 323, 324, 5, 325, 144, 145, 146, 147, 148, 149, 150, 151, 152, 153, 154, 340, 341, 342, 238, 239, 240, 241, 162, 163, 164, 165, 166, 167, 168, 169, 170, 171, 172, 173, 994, 995, 996, 997, 998, 999, 1000, 1001] (by decide +kernel) (by decide +kernel)
set_option maxRecDepth 20000 in
theorem gL_law_X6_restart : GoodIn wsL_law (wsV RL 44 RX6 yX6_restart wsX6_restart) := goodIn_app (goodIn_of _ (by decide +kernel)) ggL_law_X6_restart
set_option maxRecDepth 20000 in
theorem ggL_law_X5_setRegister : GoodIn wsL_law wsX5_setRegister := goodIn_r _ [346, 20, 15, 86, 87, 88, 19, 89, 66, 90, 91, 92, 93, 94, 14, 95, 33, 34, 35, 39, 96, 97, 98, 99, 41, 37, 40, 45, 100, 101, 102, 103, 104, 27, 105, 50, 106, 51, 52, 107, 108, 109, 110, 111, 112, 44, 113, 60, 114, 115, 116, 347, 348, 349, 350, 317, 2, 318, 351, 352, 264, 265, 266, 334, 335, 267, 268, 269, 270, 204, 124, 125, 126, 127, 128, 129, 130, 131, 132, 133, 134, 135, 136, 989, 990, 991, 992, 993, 1012, 1013, 1014, 1002, 1003, 1004, 1005, 1006, 1007, 1008, 1009, 1010, 1011, 1021, 1022, 1023, 1024, 1025, 1026] (by decide +kernel) (by decide +kernel)
set_option maxRecDepth 20000 in
theorem gL_law_X5_setRegister : GoodIn wsL_law (wsV RL 45 RX5 yX5_setRegister wsX5_setRegister) := goodIn_app (goodIn_of _ (by decide +kernel)) ggL_law_X5_setRegister
set_option maxRecDepth 20000 in
theorem ggL_law_X6_setRegister : GoodIn wsL_law wsX6_setRegister := goodIn_r _ [356, 275, 323, 324, 5, 325, 144, 145, 146, 147, 148, 149, 150, 151, 152, 153, 154, 78, 357, 358, 359, 360, 361, 362, 363, 364, 340, 341, 342, 162, 163, 164, 165, 166, 167, 168, 169, 170, 171, 172, 173, 994, 995, 996, 997, 998, 999, 1000, 1001] (by decide +kernel) (by decide +kernel)
set_option maxRecDepth 20000 in
theorem gL_law_X6_setRegister : GoodIn wsL_law (wsV RL 48 RX6 yX6_setRegister wsX6_setRegister) := goodIn_app (goodIn_of _ (by decide +kernel)) ggL_law_X6_setRegister
set_option maxRecDepth 20000 in
theorem ggL_law_X5_load : GoodIn wsL_law wsX5_load := goodIn_r _ [368, 20, 15, 86, 87, 88, 19, 89, 66, 90, 91, 92, 93, 94, 14, 95, 33, 34, 35, 39, 96, 97, 98, 99, 41, 37, 40, 45, 100, 101, 102, 103, 104, 27, 105, 50, 106, 51, 52, 107, 108, 109, 110, 111, 112, 44, 113, 60, 114, 115, 116, 369, 370, 371, 372, 317, 2, 318, 351, 352, 121, 122, 334, 335, 373, 374, 375, 376, 184, 185, 186, 187, 188, 189, 190, 191, 192, 193, 194, 195, 196, 197, 198, 199, 200, 201, 202, 203, 204, 124, 125, 126, 209, 210, 211, 212, 213, 214, 215, 216, 217, 127, 128, 129, 130, 131, 132, 133, 134, 135, 136, 989, 990, 991, 992, 993, 1012, 1013, 1014, 1002, 1003, 1004, 1005, 1006, 1007, 1008, 1009, 1010, 1011, 1021, 1022, 1023, 1024, 1025, 1026] (by decide +kernel) (by decide +kernel)
set_option maxRecDepth 20000 in
theorem gL_law_X5_load : GoodIn wsL_law (wsV RL 49 RX5 yX5_load wsX5_load) := goodIn_app (goodIn_of _ (by decide +kernel)) ggL_law_X5_load
set_option maxRecDepth 20000 in
theorem ggL_law_X6_load : GoodIn wsL_law wsX6_load := goodIn_r _ [380, 323, 324, 5, 325, 144, 145, 146, 141, 142, 143, 147, 148, 149, 150, 151, 152, 153, 154, 78, 381, 382, 383, 384, 361, 362, 363, 364, 230, 231, 232, 233, 234, 235, 236, 237, 159, 160, 161, 238, 239, 240, 241, 242, 243, 244, 245, 246, 247, 248, 162, 163, 164, 165, 340, 341, 342, 385, 386, 387, 388, 249, 250, 251, 166, 167, 168, 169, 170, 171, 172, 173, 994, 995, 996, 997, 998, 999, 1000, 1001] (by decide +kernel) (by decide +kernel)
set_option maxRecDepth 20000 in
theorem gL_law_X6_load : GoodIn wsL_law (wsV RL 52 RX6 yX6_load wsX6_load) := goodIn_app (goodIn_of _ (by decide +kernel)) ggL_law_X6_load
set_option maxRecDepth 20000 in
theorem ggL_law_X5_loadByte : GoodIn wsL_law wsX5_loadByte := goodIn_r _ [392, 20, 15, 86, 87, 88, 19, 89, 66, 90, 91, 92, 93, 94, 14, 95, 33, 34, 35, 39, 96, 97, 98, 99, 41, 37, 40, 45, 100, 101, 102, 103, 104, 27, 105, 50, 106, 51, 52, 107, 108, 109, 110, 111, 112, 44, 113, 60, 114, 115, 116, 393, 394, 395, 396, 317, 2, 318, 351, 352, 121, 122, 397, 398, 334, 335, 373, 374, 375, 376, 184, 185, 186, 187, 188, 189, 190, 191, 192, 193, 194, 195, 196, 197, 198, 199, 200, 201, 202, 203, 204, 124, 125, 126, 209, 210, 211, 212, 213, 214, 215, 216, 217, 399, 400, 127, 128, 129, 130, 131, 132, 133, 134, 135, 136, 989, 990, 991, 992, 993, 1012, 1013, 1014, 1002, 1003, 1004, 1005, 1006, 1007, 1008, 1009, 1010, 1011, 1021, 1022, 1023, 1024, 1025, 1026] (by decide +kernel) (by decide +kernel)
set_option maxRecDepth 20000 in
theorem gL_law_X5_loadByte : GoodIn wsL_law (wsV RL 53 RX5 yX5_loadByte wsX5_loadByte) := goodIn_app (goodIn_of _ (by decide +kernel)) ggL_law_X5_loadByte
set_option maxRecDepth 20000 in
theorem ggL_law_X6_loadByte : GoodIn wsL_law wsX6_loadByte := goodIn_r _ [404, 323, 324, 5, 325, 144, 145, 146, 141, 142, 143, 147, 148, 149, 150, 151, 152, 153, 154, 78, 381, 382, 383, 384, 361, 362, 363, 364, 230, 231, 232, 233, 234, 235, 236, 237, 159, 160, 161, 238, 239, 240, 241, 242, 243, 244, 245, 246, 247, 248, 162, 163, 164, 165, 340, 341, 342, 385, 386, 387, 388, 249, 250, 251, 166, 167, 168, 169, 170, 171, 172, 173, 994, 995, 996, 997, 998, 999, 1000, 1001] (by decide +kernel) (by decide +kernel)
set_option maxRecDepth 20000 in
theorem gL_law_X6_loadByte : GoodIn wsL_law (wsV RL 57 RX6 yX6_loadByte wsX6_loadByte) := goodIn_app (goodIn_of _ (by decide +kernel)) ggL_law_X6_loadByte
set_option maxRecDepth 20000 in
theorem ggL_law_X5_store : GoodIn wsL_law wsX5_store := goodIn_r _ [408, 20, 15, 86, 87, 88, 19, 89, 66, 90, 91, 92, 93, 94, 14, 95, 33, 34, 35, 39, 96, 97, 98, 99, 41, 37, 40, 45, 100, 101, 102, 103, 104, 27, 105, 50, 106, 51, 52, 107, 108, 109, 110, 111, 112, 44, 113, 60, 114, 115, 116, 409, 410, 411, 412, 317, 2, 318, 351, 352, 121, 122, 334, 335, 205, 206, 207, 208, 209, 210, 211, 212, 213, 214, 215, 216, 217, 193, 194, 195, 204, 124, 125, 126, 218, 219, 220, 221, 196, 197, 198, 199, 200, 201, 202, 203, 192, 127, 128, 129, 130, 131, 132, 133, 134, 135, 136, 989, 990, 991, 992, 993, 1012, 1013, 1014, 1002, 1003, 1004, 1005, 1006, 1007, 1008, 1009, 1010, 1011, 1021, 1022, 1023, 1024, 1025, 1026] (by decide +kernel) (by decide +kernel)
set_option maxRecDepth 20000 in
theorem gL_law_X5_store : GoodIn wsL_law (wsV RL 58 RX5 yX5_store wsX5_store) := goodIn_app (goodIn_of _ (by decide +kernel)) ggL_law_X5_store
set_option maxRecDepth 20000 in
theorem ggL_law_X6_store : GoodIn wsL_law wsX6_store := goodIn_r _ [416, 323, 324, 5, 325, 144, 145, 146, 141, 142, 143, 147, 148, 149, 150, 151, 152, 153, 154, 78, 417, 418, 419, 420, 361, 362, 363, 364, 340, 341, 342, 159, 160, 161, 385, 386, 387, 388, 249, 250, 251, 162, 163, 164, 165, 252, 253, 254, 255, 242, 243, 244, 245, 246, 247, 248, 238, 239, 240, 241, 166, 167, 168, 169, 170, 171, 172, 173, 994, 995, 996, 997, 998, 999, 1000, 1001] (by decide +kernel) (by decide +kernel)
set_option maxRecDepth 20000 in
theorem gL_law_X6_store : GoodIn wsL_law (wsV RL 61 RX6 yX6_store wsX6_store) := goodIn_app (goodIn_of _ (by decide +kernel)) ggL_law_X6_store
set_option maxRecDepth 20000 in
theorem ggL_law_X5_storeByte : GoodIn wsL_law wsX5_storeByte := goodIn_r _ [424, 20, 15, 86, 87, 88, 19, 89, 66, 90, 91, 92, 93, 94, 14, 95, 33, 34, 35, 39, 96, 97, 98, 99, 41, 37, 40, 45, 100, 101, 102, 103, 104, 27, 105, 50, 106, 51, 52, 107, 108, 109, 110, 111, 112, 44, 113, 60, 114, 115, 116, 425, 426, 427, 428, 317, 2, 318, 351, 352, 121, 122, 397, 398, 184, 185, 186, 187, 188, 189, 190, 191, 192, 193, 194, 195, 196, 197, 198, 199, 200, 201, 202, 203, 204, 124, 125, 126, 334, 335, 399, 400, 209, 210, 211, 212, 213, 214, 215, 216, 217, 218, 219, 220, 221, 127, 128, 129, 130, 131, 132, 133, 134, 135, 136, 989, 990, 991, 992, 993, 1012, 1013, 1014, 1002, 1003, 1004, 1005, 1006, 1007, 1008, 1009, 1010, 1011, 1021, 1022, 1023, 1024, 1025, 1026] (by decide +kernel) (by decide +kernel)
set_option maxRecDepth 20000 in
theorem gL_law_X5_storeByte : GoodIn wsL_law (wsV RL 62 RX5 yX5_storeByte wsX5_storeByte) := goodIn_app (goodIn_of _ (by decide +kernel)) ggL_law_X5_storeByte
set_option maxRecDepth 20000 in
theorem ggL_law_X6_storeByte : GoodIn wsL_law wsX6_storeByte := goodIn_r _ [432, 323, 324, 5, 325, 144, 145, 146, 141, 142, 143, 147, 148, 149, 150, 151, 152, 153, 154, 78, 433, 434, 435, 436, 361, 362, 363, 364, 230, 231, 232, 233, 234, 235, 236, 237, 159, 160, 161, 238, 239, 240, 241, 242, 243, 244, 245, 246, 247, 248, 162, 163, 164, 165, 340, 341, 342, 385, 386, 387, 388, 249, 250, 251, 252, 253, 254, 255, 166, 167, 168, 169, 170, 171, 172, 173, 994, 995, 996, 997, 998, 999, 1000, 1001] (by decide +kernel) (by decide +kernel)
set_option maxRecDepth 20000 in
theorem gL_law_X6_storeByte : GoodIn wsL_law (wsV RL 65 RX6 yX6_storeByte wsX6_storeByte) := goodIn_app (goodIn_of _ (by decide +kernel)) ggL_law_X6_storeByte
set_option maxRecDepth 20000 in
theorem ggL_law_X5_move : GoodIn wsL_law wsX5_move := goodIn_r _ [440, 20, 15, 86, 87, 88, 19, 89, 66, 90, 91, 92, 93, 94, 14, 95, 33, 34, 35, 39, 96, 97, 98, 99, 41, 37, 40, 45, 100, 101, 102, 103, 104, 27, 105, 50, 106, 51, 52, 107, 108, 109, 110, 111, 112, 44, 113, 60, 114, 115, 116, 441, 442, 443, 444, 317, 2, 318, 351, 352, 334, 335, 209, 210, 211, 212, 213, 214, 215, 216, 217, 193, 194, 195, 204, 124, 125, 126, 127, 128, 129, 130, 131, 132, 133, 134, 135, 136, 989, 990, 991, 992, 993, 1012, 1013, 1014, 1002, 1003, 1004, 1005, 1006, 1007, 1008, 1009, 1010, 1011, 1021, 1022, 1023, 1024, 1025, 1026] (by decide +kernel) (by decide +kernel)
set_option maxRecDepth 20000 in
theorem gL_law_X5_move : GoodIn wsL_law (wsV RL 66 RX5 yX5_move wsX5_move) := goodIn_app (goodIn_of _ (by decide +kernel)) ggL_law_X5_move
set_option maxRecDepth 20000 in
theorem ggL_law_X6_move : GoodIn wsL_law wsX6_move := goodIn_r _ [448, 323, 324, 5, 325, 144, 145, 146, 147, 148, 149, 150, 151, 152, 153, 154, 78, 449, 450, 451, 452, 361, 362, 363, 364, 340, 341, 342, 385, 386, 387, 388, 249, 250, 251, 162, 163, 164, 165, 166, 167, 168, 169, 170, 171, 172, 173, 994, 995, 996, 997, 998, 999, 1000, 1001] (by decide +kernel) (by decide +kernel)
set_option maxRecDepth 20000 in
theorem gL_law_X6_move : GoodIn wsL_law (wsV RL 69 RX6 yX6_move wsX6_move) := goodIn_app (goodIn_of _ (by decide +kernel)) ggL_law_X6_move
set_option maxRecDepth 20000 in
theorem ggL_law_X5_compute : GoodIn wsL_law wsX5_compute := goodIn_r _ [456, 20, 15, 86, 87, 88, 19, 89, 66, 90, 91, 92, 93, 94, 14, 95, 33, 34, 35, 39, 96, 97, 98, 99, 41, 37, 40, 45, 100, 101, 102, 103, 104, 27, 105, 50, 106, 51, 52, 107, 108, 109, 110, 111, 112, 44, 113, 60, 114, 115, 116, 457, 458, 459, 460, 317, 2, 318, 351, 352, 461, 462, 463, 464, 334, 335, 192, 193, 194, 195, 465, 466, 467, 468, 469, 214, 215, 216, 470, 471, 472, 473, 267, 268, 269, 270, 204, 124, 125, 126, 474, 475, 476, 477, 127, 128, 129, 130, 131, 132, 133, 134, 135, 136, 989, 990, 991, 992, 993, 1012, 1013, 1014, 1002, 1003, 1004, 1005, 1006, 1007, 1008, 1009, 1010, 1011, 1021, 1022, 1023, 1024, 1025, 1026] (by decide +kernel) (by decide +kernel)
set_option maxRecDepth 20000 in
theorem gL_law_X5_compute : GoodIn wsL_law (wsV RL 70 RX5 yX5_compute wsX5_compute) := goodIn_app (goodIn_of _ (by decide +kernel)) ggL_law_X5_compute
set_option maxRecDepth 20000 in
theorem ggL_law_X6_compute : GoodIn wsL_law wsX6_compute := goodIn_r _ [481, 323, 324, 5, 325, 144, 145, 146, 147, 148, 149, 150, 151, 152, 153, 154, 78, 482, 483, 484, 485, 361, 362, 363, 364, 486, 487, 488, 489, 340, 341, 342, 238, 239, 240, 241, 490, 491, 492, 493, 162, 163, 164, 165, 494, 495, 496, 497, 166, 167, 168, 169, 170, 171, 172, 173, 994, 995, 996, 997, 998, 999, 1000, 1001] (by decide +kernel) (by decide +kernel)
set_option maxRecDepth 20000 in
theorem gL_law_X6_compute : GoodIn wsL_law (wsV RL 74 RX6 yX6_compute wsX6_compute) := goodIn_app (goodIn_of _ (by decide +kernel)) ggL_law_X6_compute
set_option maxRecDepth 20000 in
theorem ggL_law_X5_loadAt : GoodIn wsL_law wsX5_loadAt := goodIn_r _ [501, 20, 15, 86, 87, 88, 19, 89, 66, 90, 91, 92, 93, 94, 14, 95, 33, 34, 35, 39, 96, 97, 98, 99, 41, 37, 40, 45, 100, 101, 102, 103, 104, 27, 105, 50, 106, 51, 52, 107, 108, 109, 110, 111, 112, 44, 113, 60, 114, 115, 116, 502, 503, 504, 505, 317, 2, 318, 351, 352, 461, 462, 463, 464, 334, 335, 192, 193, 194, 195, 465, 466, 467, 468, 469, 214, 215, 216, 470, 471, 472, 473, 267, 268, 269, 270, 204, 124, 125, 126, 506, 507, 508, 509, 373, 374, 375, 376, 184, 185, 186, 187, 188, 189, 190, 191, 196, 197, 198, 199, 200, 201, 202, 203, 209, 210, 211, 212, 213, 217, 127, 128, 129, 130, 131, 132, 133, 134, 135, 136, 989, 990, 991, 992, 993, 1012, 1013, 1014, 1002, 1003, 1004, 1005, 1006, 1007, 1008, 1009, 1010, 1011, 1021, 1022, 1023, 1024, 1025, 1026] (by decide +kernel) (by decide +kernel)
set_option maxRecDepth 20000 in
theorem gL_law_X5_loadAt : GoodIn wsL_law (wsV RL 75 RX5 yX5_loadAt wsX5_loadAt) := goodIn_app (goodIn_of _ (by decide +kernel)) ggL_law_X5_loadAt
set_option maxRecDepth 20000 in
theorem ggL_law_X6_loadAt : GoodIn wsL_law wsX6_loadAt := goodIn_r _ [513, 323, 324, 5, 325, 144, 145, 146, 147, 148, 149, 150, 151, 152, 153, 154, 78, 514, 515, 516, 517, 361, 362, 363, 364, 486, 487, 488, 489, 340, 341, 342, 238, 239, 240, 241, 490, 491, 492, 493, 162, 163, 164, 165, 381, 382, 383, 384, 230, 231, 232, 233, 234, 235, 236, 237, 159, 160, 161, 242, 243, 244, 245, 246, 247, 248, 385, 386, 387, 388, 249, 250, 251, 166, 167, 168, 169, 170, 171, 172, 173, 994, 995, 996, 997, 998, 999, 1000, 1001] (by decide +kernel) (by decide +kernel)
set_option maxRecDepth 20000 in
theorem gL_law_X6_loadAt : GoodIn wsL_law (wsV RL 78 RX6 yX6_loadAt wsX6_loadAt) := goodIn_app (goodIn_of _ (by decide +kernel)) ggL_law_X6_loadAt
set_option maxRecDepth 20000 in
theorem ggL_law_X5_output : GoodIn wsL_law wsX5_output := goodIn_r _ [521, 20, 15, 86, 87, 88, 19, 89, 66, 90, 91, 92, 93, 94, 14, 95, 33, 34, 35, 39, 96, 97, 98, 99, 41, 37, 40, 45, 100, 101, 102, 103, 104, 27, 105, 50, 106, 51, 52, 107, 108, 109, 110, 111, 112, 44, 113, 60, 114, 115, 116, 522, 523, 524, 525, 317, 2, 318, 351, 352, 461, 462, 463, 464, 334, 335, 192, 193, 194, 195, 465, 466, 467, 468, 469, 214, 215, 216, 470, 471, 472, 473, 267, 268, 269, 270, 204, 124, 125, 126, 127, 128, 129, 130, 131, 132, 133, 134, 135, 136, 989, 990, 991, 992, 993, 1012, 1013, 1014, 1002, 1003, 1004, 1005, 1006, 1007, 1008, 1009, 1010, 1011, 1021, 1022, 1023, 1024, 1025, 1026] (by decide +kernel) (by decide +kernel)
set_option maxRecDepth 20000 in
theorem gL_law_X5_output : GoodIn wsL_law (wsV RL 79 RX5 yX5_output wsX5_output) := goodIn_app (goodIn_of _ (by decide +kernel)) ggL_law_X5_output
set_option maxRecDepth 20000 in
theorem ggL_law_X6_output : GoodIn wsL_law wsX6_output := goodIn_r _ [529, 323, 324, 5, 325, 144, 145, 146, 147, 148, 149, 150, 151, 152, 153, 154, 78, 530, 531, 532, 533, 361, 362, 363, 364, 486, 487, 488, 489, 340, 341, 342, 238, 239, 240, 241, 490, 491, 492, 493, 162, 163, 164, 165, 166, 167, 168, 169, 170, 171, 172, 173, 994, 995, 996, 997, 998, 999, 1000, 1001] (by decide +kernel) (by decide +kernel)
set_option maxRecDepth 20000 in
theorem gL_law_X6_output : GoodIn wsL_law (wsV RL 82 RX6 yX6_output wsX6_output) := goodIn_app (goodIn_of _ (by decide +kernel)) ggL_law_X6_output
set_option maxRecDepth 20000 in
theorem ggL_law_X5_append : GoodIn wsL_law wsX5_append := goodIn_r _ [537, 24, 538, 539, 540, 23, 541, 542, 71, 989, 990, 991, 992, 993, 1015, 1016, 1017, 1018, 1019, 1020] (by decide +kernel) (by decide +kernel)
set_option maxRecDepth 20000 in
theorem gL_law_X5_append : GoodIn wsL_law (wsV RL 83 RX5 yX5_append wsX5_append) := goodIn_app (goodIn_of _ (by decide +kernel)) ggL_law_X5_append
set_option maxRecDepth 20000 in
theorem ggL_law_X6_append : GoodIn wsL_law wsX6_append := goodIn_r _ [546, 547, 79, 144, 145, 5, 146, 994, 995, 996, 997, 998, 999, 1000, 1001] (by decide +kernel) (by decide +kernel)
set_option maxRecDepth 20000 in
theorem gL_law_X6_append : GoodIn wsL_law (wsV RL 86 RX6 yX6_append wsX6_append) := goodIn_app (goodIn_of _ (by decide +kernel)) ggL_law_X6_append
set_option maxRecDepth 20000 in
theorem ggL_law_X5_clearText : GoodIn wsL_law wsX5_clearText := goodIn_r _ [551, 24, 552, 553, 554, 23, 555, 542, 989, 990, 991, 992, 993, 1015, 1016, 1017, 1018, 1019, 1020] (by decide +kernel) (by decide +kernel)
set_option maxRecDepth 20000 in
theorem gL_law_X5_clearText : GoodIn wsL_law (wsV RL 87 RX5 yX5_clearText wsX5_clearText) := goodIn_app (goodIn_of _ (by decide +kernel)) ggL_law_X5_clearText
set_option maxRecDepth 20000 in
theorem ggL_law_X6_clearText : GoodIn wsL_law wsX6_clearText := goodIn_r _ [559, 547, 994, 995, 996, 997, 998, 999, 1000, 1001] (by decide +kernel) (by decide +kernel)
set_option maxRecDepth 20000 in
theorem gL_law_X6_clearText : GoodIn wsL_law (wsV RL 91 RX6 yX6_clearText wsX6_clearText) := goodIn_app (goodIn_of _ (by decide +kernel)) ggL_law_X6_clearText
set_option maxRecDepth 20000 in
theorem ggL_law_X5_fault : GoodIn wsL_law wsX5_fault := goodIn_r _ [563, 24, 564, 565, 566, 23, 567, 568, 542, 569, 570, 571, 572, 573, 574, 575, 576, 71, 577, 578, 579, 580, 581, 582, 583, 584, 585, 586, 587, 588, 589, 590, 591, 592, 593, 594, 595, 596, 597, 598, 599, 600, 601, 602, 603, 604, 605, 606, 607, 608, 609, 610, 611, 612, 613, 614, 615, 616, 617, 618, 619, 620, 621, 622, 623, 624, 625, 626, 627, 628, 629, 630, 631, 632, 633, 634, 635, 636, 637, 638, 639, 640, 641, 642, 643, 644, 645, 646, 647, 648, 649, 650, 651, 72, 652, 653, 654, 655, 656, 657, 658, 659, 989, 990, 991, 992, 993, 1015, 1016, 1017, 1018, 1019, 1020] (by decide +kernel) (by decide +kernel)
set_option maxRecDepth 20000 in
theorem gL_law_X5_fault : GoodIn wsL_law (wsV RL 92 RX5 yX5_fault wsX5_fault) := goodIn_app (goodIn_of _ (by decide +kernel)) ggL_law_X5_fault
set_option maxRecDepth 20000 in
theorem ggL_law_X6_fault : GoodIn wsL_law wsX6_fault := goodIn_r _ [663, 664, 665, 666, 667, 5, 668, 547, 669, 670, 671, 672, 673, 275, 674, 675, 676, 677, 79, 678, 679, 680, 681, 80, 144, 145, 146, 682, 683, 684, 685, 686, 687, 688, 689, 994, 995, 996, 997, 998, 999, 1000, 1001] (by decide +kernel) (by decide +kernel)
set_option maxRecDepth 20000 in
theorem gL_law_X6_fault : GoodIn wsL_law (wsV RL 95 RX6 yX6_fault wsX6_fault) := goodIn_app (goodIn_of _ (by decide +kernel)) ggL_law_X6_fault
set_option maxRecDepth 20000 in
theorem ggL_law_X5_run : GoodIn wsL_law wsX5_run := goodIn_r _ [693, 24, 20, 15, 564, 565, 566, 23, 567, 568, 542, 569, 570, 571, 572, 573, 574, 575, 576, 71, 577, 578, 579, 580, 581, 582, 583, 584, 585, 586, 587, 588, 589, 590, 591, 592, 593, 594, 595, 596, 597, 598, 599, 600, 601, 602, 603, 604, 605, 606, 607, 608, 609, 610, 611, 612, 613, 614, 615, 616, 617, 618, 619, 620, 621, 622, 623, 624, 625, 626, 627, 628, 629, 630, 631, 632, 633, 634, 635, 636, 637, 638, 639, 640, 641, 642, 643, 644, 645, 646, 647, 648, 649, 650, 651, 72, 652, 653, 654, 655, 656, 657, 658, 659, 86, 87, 88, 19, 89, 66, 90, 91, 92, 93, 94, 14, 95, 33, 34, 35, 39, 96, 97, 98, 99, 41, 37, 40, 45, 100, 101, 102, 103, 104, 27, 105, 50, 106, 51, 52, 107, 108, 109, 110, 111, 112, 44, 113, 60, 114, 115, 116, 694, 695, 696, 697, 698, 699, 700, 701, 2, 702, 369, 370, 371, 372, 317, 318, 351, 352, 121, 122, 334, 335, 373, 374, 375, 376, 184, 185, 186, 187, 188, 189, 190, 191, 192, 193, 194, 195, 196, 197, 198, 199, 200, 201, 202, 203, 204, 124, 125, 126, 209, 210, 211, 212, 213, 214, 215, 216, 217, 409, 410, 411, 412, 205, 206, 207, 208, 218, 219, 220, 221, 441, 442, 443, 444, 457, 458, 459, 460, 461, 462, 463, 464, 465, 466, 467, 468, 469, 470, 471, 472, 473, 267, 268, 269, 270, 474, 475, 476, 477, 522, 523, 524, 525, 117, 118, 119, 120, 123, 347, 348, 349, 350, 264, 265, 266, 703, 131, 132, 127, 128, 129, 130, 133, 134, 135, 136, 989, 990, 991, 992, 993, 1015, 1016, 1017, 1018, 1019, 1020, 1012, 1013, 1014, 1002, 1003, 1004, 1005, 1006, 1007, 1008, 1009, 1010, 1011, 1021, 1022, 1023, 1024, 1025, 1026] (by decide +kernel) (by decide +kernel)
set_option maxRecDepth 20000 in
theorem gL_law_X5_run : GoodIn wsL_law (wsV RL 96 RX5 yX5_run wsX5_run) := goodIn_app (goodIn_of _ (by decide +kernel)) ggL_law_X5_run
set_option maxRecDepth 20000 in
theorem ggL_law_X6_run : GoodIn wsL_law wsX6_run := goodIn_r _ [707, 665, 666, 667, 5, 668, 664, 547, 669, 670, 671, 672, 673, 275, 674, 675, 676, 677, 79, 678, 679, 680, 681, 80, 144, 145, 146, 682, 683, 684, 685, 686, 687, 688, 689, 708, 709, 710, 711, 147, 148, 149, 150, 151, 152, 153, 154, 78, 712, 713, 714, 715, 716, 717, 718, 719, 381, 382, 383, 384, 361, 362, 363, 364, 230, 231, 232, 233, 234, 235, 236, 237, 159, 160, 161, 238, 239, 240, 241, 242, 243, 244, 245, 246, 247, 248, 162, 163, 164, 165, 340, 341, 342, 385, 386, 387, 388, 249, 250, 251, 417, 418, 419, 420, 252, 253, 254, 255, 449, 450, 451, 452, 482, 483, 484, 485, 486, 487, 488, 489, 490, 491, 492, 493, 494, 495, 496, 497, 530, 531, 532, 533, 155, 156, 157, 158, 357, 358, 359, 360, 171, 172, 173, 166, 167, 168, 169, 170, 994, 995, 996, 997, 998, 999, 1000, 1001] (by decide +kernel) (by decide +kernel)
set_option maxRecDepth 20000 in
theorem gL_law_X6_run : GoodIn wsL_law (wsV RL 99 RX6 yX6_run wsX6_run) := goodIn_app (goodIn_of _ (by decide +kernel)) ggL_law_X6_run
set_option maxRecDepth 20000 in
theorem ggL_law_X5_undo : GoodIn wsL_law wsX5_undo := goodIn_r _ [723, 20, 15, 724, 725, 726, 19, 727, 91, 66, 90, 92, 93, 94, 14, 95, 33, 34, 35, 39, 96, 97, 98, 99, 41, 37, 40, 45, 100, 101, 102, 103, 104, 27, 105, 50, 106, 51, 52, 107, 108, 109, 110, 111, 112, 44, 113, 60, 114, 115, 116, 989, 990, 991, 992, 993, 1012, 1013, 1014, 1002, 1003, 1004, 1005, 1006, 1007, 1008, 1009, 1010, 1011, 1021, 1022, 1023, 1024, 1025, 1026] (by decide +kernel) (by decide +kernel)
set_option maxRecDepth 20000 in
theorem gL_law_X5_undo : GoodIn wsL_law (wsV RL 100 RX5 yX5_undo wsX5_undo) := goodIn_app (goodIn_of _ (by decide +kernel)) ggL_law_X5_undo
set_option maxRecDepth 20000 in
theorem ggL_law_X6_undo : GoodIn wsL_law wsX6_undo := goodIn_r _ [731, 170, 151, 152, 153, 5, 154, 78, 994, 995, 996, 997, 998, 999, 1000, 1001] (by decide +kernel) (by decide +kernel)
set_option maxRecDepth 20000 in
theorem gL_law_X6_undo : GoodIn wsL_law (wsV RL 103 RX6 yX6_undo wsX6_undo) := goodIn_app (goodIn_of _ (by decide +kernel)) ggL_law_X6_undo
set_option maxRecDepth 20000 in
theorem ggL_law_X5_value : GoodIn wsL_law wsX5_value := goodIn_r _ [735, 15, 736, 121, 2, 122, 989, 990, 991, 992, 993, 1002, 1003, 1004, 1005, 1006, 1007, 1008, 1009, 1010, 1011, 1021, 1022, 1023] (by decide +kernel) (by decide +kernel)
set_option maxRecDepth 20000 in
theorem gL_law_X5_value : GoodIn wsL_law (wsV RL 104 RX5 yX5_value wsX5_value) := goodIn_app (goodIn_of _ (by decide +kernel)) ggL_law_X5_value
set_option maxRecDepth 20000 in
theorem ggL_law_X6_value : GoodIn wsL_law wsX6_value := goodIn_r _ [740, 78, 141, 142, 5, 143, 144, 145, 146, 159, 160, 161, 994, 995, 996, 997, 998, 999, 1000, 1001] (by decide +kernel) (by decide +kernel)
set_option maxRecDepth 20000 in
theorem gL_law_X6_value : GoodIn wsL_law (wsV RL 107 RX6 yX6_value wsX6_value) := goodIn_app (goodIn_of _ (by decide +kernel)) ggL_law_X6_value
set_option maxRecDepth 20000 in
theorem ggL_law_X5_origin : GoodIn wsL_law wsX5_origin := goodIn_r _ [744, 15, 736, 121, 2, 122, 989, 990, 991, 992, 993, 1002, 1003, 1004, 1005, 1006, 1007, 1008, 1009, 1010, 1011, 1021, 1022, 1023] (by decide +kernel) (by decide +kernel)
set_option maxRecDepth 20000 in
theorem gL_law_X5_origin : GoodIn wsL_law (wsV RL 108 RX5 yX5_origin wsX5_origin) := goodIn_app (goodIn_of _ (by decide +kernel)) ggL_law_X5_origin
set_option maxRecDepth 20000 in
theorem ggL_law_X6_origin : GoodIn wsL_law wsX6_origin := goodIn_r _ [748, 141, 142, 5, 143, 144, 145, 146, 159, 160, 161, 749, 750, 751, 752, 78, 238, 239, 240, 241, 994, 995, 996, 997, 998, 999, 1000, 1001] (by decide +kernel) (by decide +kernel)
set_option maxRecDepth 20000 in
theorem gL_law_X6_origin : GoodIn wsL_law (wsV RL 111 RX6 yX6_origin wsX6_origin) := goodIn_app (goodIn_of _ (by decide +kernel)) ggL_law_X6_origin
set_option maxRecDepth 20000 in
theorem ggL_law_X5_hops : GoodIn wsL_law wsX5_hops := goodIn_r _ [756, 15, 736, 121, 2, 122, 989, 990, 991, 992, 993, 1002, 1003, 1004, 1005, 1006, 1007, 1008, 1009, 1010, 1011, 1021, 1022, 1023] (by decide +kernel) (by decide +kernel)
set_option maxRecDepth 20000 in
theorem gL_law_X5_hops : GoodIn wsL_law (wsV RL 112 RX5 yX5_hops wsX5_hops) := goodIn_app (goodIn_of _ (by decide +kernel)) ggL_law_X5_hops
set_option maxRecDepth 20000 in
theorem ggL_law_X6_hops : GoodIn wsL_law wsX6_hops := goodIn_r _ [760, 141, 142, 5, 143, 144, 145, 146, 159, 160, 161, 749, 750, 751, 752, 78, 238, 239, 240, 241, 994, 995, 996, 997, 998, 999, 1000, 1001] (by decide +kernel) (by decide +kernel)
set_option maxRecDepth 20000 in
theorem gL_law_X6_hops : GoodIn wsL_law (wsV RL 115 RX6 yX6_hops wsX6_hops) := goodIn_app (goodIn_of _ (by decide +kernel)) ggL_law_X6_hops
set_option maxRecDepth 20000 in
theorem ggL_law_X5_mirrorValue : GoodIn wsL_law wsX5_mirrorValue := goodIn_r _ [764, 15, 736, 121, 2, 122, 197, 14, 198, 199, 37, 989, 990, 991, 992, 993, 1002, 1003, 1004, 1005, 1006, 1007, 1008, 1009, 1010, 1011, 1021, 1022, 1023] (by decide +kernel) (by decide +kernel)
set_option maxRecDepth 20000 in
theorem gL_law_X5_mirrorValue : GoodIn wsL_law (wsV RL 116 RX5 yX5_mirrorValue wsX5_mirrorValue) := goodIn_app (goodIn_of _ (by decide +kernel)) ggL_law_X5_mirrorValue
set_option maxRecDepth 20000 in
theorem ggL_law_X6_mirrorValue : GoodIn wsL_law wsX6_mirrorValue := goodIn_r _ [768, 78, 141, 142, 5, 143, 144, 145, 146, 242, 243, 244, 245, 246, 247, 248, 994, 995, 996, 997, 998, 999, 1000, 1001] (by decide +kernel) (by decide +kernel)
set_option maxRecDepth 20000 in
theorem gL_law_X6_mirrorValue : GoodIn wsL_law (wsV RL 119 RX6 yX6_mirrorValue wsX6_mirrorValue) := goodIn_app (goodIn_of _ (by decide +kernel)) ggL_law_X6_mirrorValue
set_option maxRecDepth 20000 in
theorem ggL_law_X5_mirrorOrigin : GoodIn wsL_law wsX5_mirrorOrigin := goodIn_r _ [772, 15, 736, 121, 2, 122, 197, 14, 198, 199, 37, 989, 990, 991, 992, 993, 1002, 1003, 1004, 1005, 1006, 1007, 1008, 1009, 1010, 1011, 1021, 1022, 1023] (by decide +kernel) (by decide +kernel)
set_option maxRecDepth 20000 in
theorem gL_law_X5_mirrorOrigin : GoodIn wsL_law (wsV RL 120 RX5 yX5_mirrorOrigin wsX5_mirrorOrigin) := goodIn_app (goodIn_of _ (by decide +kernel)) ggL_law_X5_mirrorOrigin
set_option maxRecDepth 20000 in
theorem ggL_law_X6_mirrorOrigin : GoodIn wsL_law wsX6_mirrorOrigin := goodIn_r _ [776, 141, 142, 5, 143, 144, 145, 146, 242, 243, 244, 245, 78, 246, 247, 248, 749, 750, 751, 752, 238, 239, 240, 241, 994, 995, 996, 997, 998, 999, 1000, 1001] (by decide +kernel) (by decide +kernel)
set_option maxRecDepth 20000 in
theorem gL_law_X6_mirrorOrigin : GoodIn wsL_law (wsV RL 123 RX6 yX6_mirrorOrigin wsX6_mirrorOrigin) := goodIn_app (goodIn_of _ (by decide +kernel)) ggL_law_X6_mirrorOrigin
set_option maxRecDepth 20000 in
theorem ggL_law_X5_register : GoodIn wsL_law wsX5_register := goodIn_r _ [780, 15, 781, 317, 2, 318, 782, 351, 352, 783, 334, 335, 989, 990, 991, 992, 993, 1002, 1003, 1004, 1005, 1006, 1007, 1008, 1009, 1010, 1011, 1021, 1022, 1023] (by decide +kernel) (by decide +kernel)
set_option maxRecDepth 20000 in
theorem gL_law_X5_register : GoodIn wsL_law (wsV RL 124 RX5 yX5_register wsX5_register) := goodIn_app (goodIn_of _ (by decide +kernel)) ggL_law_X5_register
set_option maxRecDepth 20000 in
theorem ggL_law_X6_register : GoodIn wsL_law wsX6_register := goodIn_r _ [787, 78, 323, 324, 5, 325, 144, 145, 146, 340, 341, 342, 994, 995, 996, 997, 998, 999, 1000, 1001] (by decide +kernel) (by decide +kernel)
set_option maxRecDepth 20000 in
theorem gL_law_X6_register : GoodIn wsL_law (wsV RL 127 RX6 yX6_register wsX6_register) := goodIn_app (goodIn_of _ (by decide +kernel)) ggL_law_X6_register
set_option maxRecDepth 20000 in
theorem ggL_law_X5_registerOrigin : GoodIn wsL_law wsX5_registerOrigin := goodIn_r _ [791, 15, 781, 317, 2, 318, 782, 351, 352, 783, 334, 335, 989, 990, 991, 992, 993, 1002, 1003, 1004, 1005, 1006, 1007, 1008, 1009, 1010, 1011, 1021, 1022, 1023] (by decide +kernel) (by decide +kernel)
set_option maxRecDepth 20000 in
theorem gL_law_X5_registerOrigin : GoodIn wsL_law (wsV RL 128 RX5 yX5_registerOrigin wsX5_registerOrigin) := goodIn_app (goodIn_of _ (by decide +kernel)) ggL_law_X5_registerOrigin
set_option maxRecDepth 20000 in
theorem ggL_law_X6_registerOrigin : GoodIn wsL_law wsX6_registerOrigin := goodIn_r _ [795, 323, 324, 5, 325, 144, 145, 146, 340, 341, 342, 749, 750, 751, 752, 78, 238, 239, 240, 241, 994, 995, 996, 997, 998, 999, 1000, 1001] (by decide +kernel) (by decide +kernel)
set_option maxRecDepth 20000 in
theorem gL_law_X6_registerOrigin : GoodIn wsL_law (wsV RL 131 RX6 yX6_registerOrigin wsX6_registerOrigin) := goodIn_app (goodIn_of _ (by decide +kernel)) ggL_law_X6_registerOrigin
set_option maxRecDepth 20000 in
theorem ggL_law_X5_registerHops : GoodIn wsL_law wsX5_registerHops := goodIn_r _ [799, 15, 781, 317, 2, 318, 782, 351, 352, 783, 334, 335, 989, 990, 991, 992, 993, 1002, 1003, 1004, 1005, 1006, 1007, 1008, 1009, 1010, 1011, 1021, 1022, 1023] (by decide +kernel) (by decide +kernel)
set_option maxRecDepth 20000 in
theorem gL_law_X5_registerHops : GoodIn wsL_law (wsV RL 132 RX5 yX5_registerHops wsX5_registerHops) := goodIn_app (goodIn_of _ (by decide +kernel)) ggL_law_X5_registerHops
set_option maxRecDepth 20000 in
theorem ggL_law_X6_registerHops : GoodIn wsL_law wsX6_registerHops := goodIn_r _ [803, 323, 324, 5, 325, 144, 145, 146, 340, 341, 342, 749, 750, 751, 752, 78, 238, 239, 240, 241, 994, 995, 996, 997, 998, 999, 1000, 1001] (by decide +kernel) (by decide +kernel)
set_option maxRecDepth 20000 in
theorem gL_law_X6_registerHops : GoodIn wsL_law (wsV RL 135 RX6 yX6_registerHops wsX6_registerHops) := goodIn_app (goodIn_of _ (by decide +kernel)) ggL_law_X6_registerHops
set_option maxRecDepth 20000 in
theorem ggL_law_X5_mode : GoodIn wsL_law wsX5_mode := goodIn_r _ [807, 15, 781, 317, 2, 318, 989, 990, 991, 992, 993, 1002, 1003, 1004, 1005, 1006, 1007, 1008, 1009, 1010, 1011] (by decide +kernel) (by decide +kernel)
set_option maxRecDepth 20000 in
theorem gL_law_X5_mode : GoodIn wsL_law (wsV RL 136 RX5 yX5_mode wsX5_mode) := goodIn_app (goodIn_of _ (by decide +kernel)) ggL_law_X5_mode
set_option maxRecDepth 20000 in
theorem ggL_law_X6_mode : GoodIn wsL_law wsX6_mode := goodIn_r _ [811, 78, 323, 324, 5, 325, 144, 145, 146, 994, 995, 996, 997, 998, 999, 1000, 1001] (by decide +kernel) (by decide +kernel)
set_option maxRecDepth 20000 in
theorem gL_law_X6_mode : GoodIn wsL_law (wsV RL 139 RX6 yX6_mode wsX6_mode) := goodIn_app (goodIn_of _ (by decide +kernel)) ggL_law_X6_mode
set_option maxRecDepth 20000 in
theorem ggL_law_X5_stopped : GoodIn wsL_law wsX5_stopped := goodIn_r _ [815, 15, 781, 317, 2, 318, 989, 990, 991, 992, 993, 1002, 1003, 1004, 1005, 1006, 1007, 1008, 1009, 1010, 1011] (by decide +kernel) (by decide +kernel)
set_option maxRecDepth 20000 in
theorem gL_law_X5_stopped : GoodIn wsL_law (wsV RL 140 RX5 yX5_stopped wsX5_stopped) := goodIn_app (goodIn_of _ (by decide +kernel)) ggL_law_X5_stopped
set_option maxRecDepth 20000 in
theorem ggL_law_X6_stopped : GoodIn wsL_law wsX6_stopped := goodIn_r _ [819, 78, 323, 324, 5, 325, 144, 145, 146, 994, 995, 996, 997, 998, 999, 1000, 1001] (by decide +kernel) (by decide +kernel)
set_option maxRecDepth 20000 in
theorem gL_law_X6_stopped : GoodIn wsL_law (wsV RL 143 RX6 yX6_stopped wsX6_stopped) := goodIn_app (goodIn_of _ (by decide +kernel)) ggL_law_X6_stopped
set_option maxRecDepth 20000 in
theorem ggL_law_X5_injections : GoodIn wsL_law wsX5_injections := goodIn_r _ [823, 15, 989, 990, 991, 992, 993, 1002, 1003, 1004, 1005, 1006, 1007, 1008, 1009, 1010, 1011] (by decide +kernel) (by decide +kernel)
set_option maxRecDepth 20000 in
theorem gL_law_X5_injections : GoodIn wsL_law (wsV RL 144 RX5 yX5_injections wsX5_injections) := goodIn_app (goodIn_of _ (by decide +kernel)) ggL_law_X5_injections
set_option maxRecDepth 20000 in
theorem ggL_law_X6_injections : GoodIn wsL_law wsX6_injections := goodIn_r _ [827, 78, 994, 995, 996, 997, 998, 999, 1000, 1001] (by decide +kernel) (by decide +kernel)
set_option maxRecDepth 20000 in
theorem gL_law_X6_injections : GoodIn wsL_law (wsV RL 147 RX6 yX6_injections wsX6_injections) := goodIn_app (goodIn_of _ (by decide +kernel)) ggL_law_X6_injections
set_option maxRecDepth 20000 in
theorem ggL_law_X5_source : GoodIn wsL_law wsX5_source := goodIn_r _ [831, 15, 832, 14, 833, 834, 100, 989, 990, 991, 992, 993, 1002, 1003, 1004, 1005, 1006, 1007, 1008, 1009, 1010, 1011] (by decide +kernel) (by decide +kernel)
set_option maxRecDepth 20000 in
theorem gL_law_X5_source : GoodIn wsL_law (wsV RL 148 RX5 yX5_source wsX5_source) := goodIn_app (goodIn_of _ (by decide +kernel)) ggL_law_X5_source
set_option maxRecDepth 20000 in
theorem ggL_law_X6_source : GoodIn wsL_law wsX6_source := goodIn_r _ [838, 78, 839, 840, 841, 5, 842, 144, 145, 146, 994, 995, 996, 997, 998, 999, 1000, 1001] (by decide +kernel) (by decide +kernel)
set_option maxRecDepth 20000 in
theorem gL_law_X6_source : GoodIn wsL_law (wsV RL 151 RX6 yX6_source wsX6_source) := goodIn_app (goodIn_of _ (by decide +kernel)) ggL_law_X6_source
set_option maxRecDepth 20000 in
theorem ggL_law_X5_faults : GoodIn wsL_law wsX5_faults := goodIn_r _ [846, 15, 989, 990, 991, 992, 993, 1002, 1003, 1004, 1005, 1006, 1007, 1008, 1009, 1010, 1011, 1024, 1025, 1026] (by decide +kernel) (by decide +kernel)
set_option maxRecDepth 20000 in
theorem gL_law_X5_faults : GoodIn wsL_law (wsV RL 152 RX5 yX5_faults wsX5_faults) := goodIn_app (goodIn_of _ (by decide +kernel)) ggL_law_X5_faults
set_option maxRecDepth 20000 in
theorem ggL_law_X6_faults : GoodIn wsL_law wsX6_faults := goodIn_r _ [850, 78, 994, 995, 996, 997, 998, 999, 1000, 1001] (by decide +kernel) (by decide +kernel)
set_option maxRecDepth 20000 in
theorem gL_law_X6_faults : GoodIn wsL_law (wsV RL 155 RX6 yX6_faults wsX6_faults) := goodIn_app (goodIn_of _ (by decide +kernel)) ggL_law_X6_faults
set_option maxRecDepth 20000 in
theorem ggL_law_X5_log : GoodIn wsL_law wsX5_log := goodIn_r _ [854, 15, 989, 990, 991, 992, 993, 1002, 1003, 1004, 1005, 1006, 1007, 1008, 1009, 1010, 1011, 1024, 1025, 1026] (by decide +kernel) (by decide +kernel)
set_option maxRecDepth 20000 in
theorem gL_law_X5_log : GoodIn wsL_law (wsV RL 156 RX5 yX5_log wsX5_log) := goodIn_app (goodIn_of _ (by decide +kernel)) ggL_law_X5_log
set_option maxRecDepth 20000 in
theorem ggL_law_X6_log : GoodIn wsL_law wsX6_log := goodIn_r _ [858, 78, 144, 145, 5, 146, 994, 995, 996, 997, 998, 999, 1000, 1001] (by decide +kernel) (by decide +kernel)
set_option maxRecDepth 20000 in
theorem gL_law_X6_log : GoodIn wsL_law (wsV RL 159 RX6 yX6_log wsX6_log) := goodIn_app (goodIn_of _ (by decide +kernel)) ggL_law_X6_log
set_option maxRecDepth 20000 in
theorem ggL_law_X5_healed : GoodIn wsL_law wsX5_healed := goodIn_r _ [862, 15, 989, 990, 991, 992, 993, 1002, 1003, 1004, 1005, 1006, 1007, 1008, 1009, 1010, 1011] (by decide +kernel) (by decide +kernel)
set_option maxRecDepth 20000 in
theorem gL_law_X5_healed : GoodIn wsL_law (wsV RL 160 RX5 yX5_healed wsX5_healed) := goodIn_app (goodIn_of _ (by decide +kernel)) ggL_law_X5_healed
set_option maxRecDepth 20000 in
theorem ggL_law_X6_healed : GoodIn wsL_law wsX6_healed := goodIn_r _ [866, 78, 994, 995, 996, 997, 998, 999, 1000, 1001] (by decide +kernel) (by decide +kernel)
set_option maxRecDepth 20000 in
theorem gL_law_X6_healed : GoodIn wsL_law (wsV RL 163 RX6 yX6_healed wsX6_healed) := goodIn_app (goodIn_of _ (by decide +kernel)) ggL_law_X6_healed
set_option maxRecDepth 20000 in
theorem ggL_law_X5_poisoned : GoodIn wsL_law wsX5_poisoned := goodIn_r _ [870, 15, 871, 284, 2, 285, 872, 223, 224, 27, 225, 217, 193, 194, 195, 51, 989, 990, 991, 992, 993, 1002, 1003, 1004, 1005, 1006, 1007, 1008, 1009, 1010, 1011, 1021, 1022, 1023] (by decide +kernel) (by decide +kernel)
set_option maxRecDepth 20000 in
theorem gL_law_X5_poisoned : GoodIn wsL_law (wsV RL 164 RX5 yX5_poisoned wsX5_poisoned) := goodIn_app (goodIn_of _ (by decide +kernel)) ggL_law_X5_poisoned
set_option maxRecDepth 20000 in
theorem ggL_law_X6_poisoned : GoodIn wsL_law wsX6_poisoned := goodIn_r _ [876, 294, 295, 5, 296, 144, 145, 146, 877, 878, 879, 880, 159, 160, 161, 238, 239, 240, 241, 78, 994, 995, 996, 997, 998, 999, 1000, 1001] (by decide +kernel) (by decide +kernel)
set_option maxRecDepth 20000 in
theorem gL_law_X6_poisoned : GoodIn wsL_law (wsV RL 167 RX6 yX6_poisoned wsX6_poisoned) := goodIn_app (goodIn_of _ (by decide +kernel)) ggL_law_X6_poisoned
set_option maxRecDepth 20000 in
theorem ggL_law_X5_carriers : GoodIn wsL_law wsX5_carriers := goodIn_r _ [884, 15, 832, 14, 833, 834, 100, 885, 886, 887, 33, 35, 888, 889, 890, 27, 891, 51, 989, 990, 991, 992, 993, 1002, 1003, 1004, 1005, 1006, 1007, 1008, 1009, 1010, 1011, 1021, 1022, 1023] (by decide +kernel) (by decide +kernel)
set_option maxRecDepth 20000 in
theorem gL_law_X5_carriers : GoodIn wsL_law (wsV RL 168 RX5 yX5_carriers wsX5_carriers) := goodIn_app (goodIn_of _ (by decide +kernel)) ggL_law_X5_carriers
set_option maxRecDepth 20000 in
theorem ggL_law_X6_carriers : GoodIn wsL_law wsX6_carriers := goodIn_r _ [895, 839, 840, 841, 5, 842, 78, 144, 145, 146, 896, 897, 898, 899, 900, 901, 902, 903, 994, 995, 996, 997, 998, 999, 1000, 1001] (by decide +kernel) (by decide +kernel)
set_option maxRecDepth 20000 in
theorem gL_law_X6_carriers : GoodIn wsL_law (wsV RL 171 RX6 yX6_carriers wsX6_carriers) := goodIn_app (goodIn_of _ (by decide +kernel)) ggL_law_X6_carriers
set_option maxRecDepth 20000 in
theorem ggL_law_X5_farthest : GoodIn wsL_law wsX5_farthest := goodIn_r _ [907, 15, 908, 909, 215, 910, 832, 14, 833, 834, 100, 911, 912, 913, 27, 914, 51, 52, 915, 989, 990, 991, 992, 993, 1002, 1003, 1004, 1005, 1006, 1007, 1008, 1009, 1010, 1011, 1021, 1022, 1023] (by decide +kernel) (by decide +kernel)
set_option maxRecDepth 20000 in
theorem gL_law_X5_farthest : GoodIn wsL_law (wsV RL 172 RX5 yX5_farthest wsX5_farthest) := goodIn_app (goodIn_of _ (by decide +kernel)) ggL_law_X5_farthest
set_option maxRecDepth 20000 in
theorem ggL_law_X6_farthest : GoodIn wsL_law wsX6_farthest := goodIn_r _ [919, 78, 839, 840, 841, 5, 842, 144, 145, 146, 900, 901, 902, 903, 994, 995, 996, 997, 998, 999, 1000, 1001] (by decide +kernel) (by decide +kernel)
set_option maxRecDepth 20000 in
theorem gL_law_X6_farthest : GoodIn wsL_law (wsV RL 175 RX6 yX6_farthest wsX6_farthest) := goodIn_app (goodIn_of _ (by decide +kernel)) ggL_law_X6_farthest
set_option maxRecDepth 20000 in
theorem ggL_law_X5_widest : GoodIn wsL_law wsX5_widest := goodIn_r _ [923, 15, 885, 14, 886, 887, 33, 35, 888, 889, 890, 27, 891, 51, 989, 990, 991, 992, 993, 1002, 1003, 1004, 1005, 1006, 1007, 1008, 1009, 1010, 1011, 1021, 1022, 1023] (by decide +kernel) (by decide +kernel)
set_option maxRecDepth 20000 in
theorem gL_law_X5_widest : GoodIn wsL_law (wsV RL 176 RX5 yX5_widest wsX5_widest) := goodIn_app (goodIn_of _ (by decide +kernel)) ggL_law_X5_widest
set_option maxRecDepth 20000 in
theorem ggL_law_X6_widest : GoodIn wsL_law wsX6_widest := goodIn_r _ [927, 78, 896, 897, 898, 5, 899, 900, 901, 902, 903, 994, 995, 996, 997, 998, 999, 1000, 1001] (by decide +kernel) (by decide +kernel)
set_option maxRecDepth 20000 in
theorem gL_law_X6_widest : GoodIn wsL_law (wsV RL 179 RX6 yX6_widest wsX6_widest) := goodIn_app (goodIn_of _ (by decide +kernel)) ggL_law_X6_widest
set_option maxRecDepth 20000 in
theorem ggL_law_X5_atRisk : GoodIn wsL_law wsX5_atRisk := goodIn_r _ [931, 15, 783, 334, 2, 335, 872, 223, 224, 27, 225, 217, 193, 194, 195, 51, 989, 990, 991, 992, 993, 1002, 1003, 1004, 1005, 1006, 1007, 1008, 1009, 1010, 1011, 1021, 1022, 1023] (by decide +kernel) (by decide +kernel)
set_option maxRecDepth 20000 in
theorem gL_law_X5_atRisk : GoodIn wsL_law (wsV RL 180 RX5 yX5_atRisk wsX5_atRisk) := goodIn_app (goodIn_of _ (by decide +kernel)) ggL_law_X5_atRisk
set_option maxRecDepth 20000 in
theorem ggL_law_X6_atRisk : GoodIn wsL_law wsX6_atRisk := goodIn_r _ [935, 78, 340, 341, 5, 342, 238, 239, 240, 241, 994, 995, 996, 997, 998, 999, 1000, 1001] (by decide +kernel) (by decide +kernel)
set_option maxRecDepth 20000 in
theorem gL_law_X6_atRisk : GoodIn wsL_law (wsV RL 183 RX6 yX6_atRisk wsX6_atRisk) := goodIn_app (goodIn_of _ (by decide +kernel)) ggL_law_X6_atRisk
set_option maxRecDepth 20000 in
theorem ggL_law_X5_poisonShare : GoodIn wsL_law wsX5_poisonShare := goodIn_r _ [939, 15, 940, 872, 223, 224, 27, 225, 217, 193, 194, 195, 51, 989, 990, 991, 992, 993, 1002, 1003, 1004, 1005, 1006, 1007, 1008, 1009, 1010, 1011, 1021, 1022, 1023] (by decide +kernel) (by decide +kernel)
set_option maxRecDepth 20000 in
theorem gL_law_X5_poisonShare : GoodIn wsL_law (wsV RL 184 RX5 yX5_poisonShare wsX5_poisonShare) := goodIn_app (goodIn_of _ (by decide +kernel)) ggL_law_X5_poisonShare
set_option maxRecDepth 20000 in
theorem ggL_law_X6_poisonShare : GoodIn wsL_law wsX6_poisonShare := goodIn_r _ [944, 945, 877, 878, 879, 5, 880, 159, 160, 161, 238, 239, 240, 241, 78, 994, 995, 996, 997, 998, 999, 1000, 1001] (by decide +kernel) (by decide +kernel)
set_option maxRecDepth 20000 in
theorem gL_law_X6_poisonShare : GoodIn wsL_law (wsV RL 188 RX6 yX6_poisonShare wsX6_poisonShare) := goodIn_app (goodIn_of _ (by decide +kernel)) ggL_law_X6_poisonShare
set_option maxRecDepth 20000 in
theorem ggL_law_X5_poisonedIfScrubbed : GoodIn wsL_law wsX5_poisonedIfScrubbed := goodIn_r _ [949, 15, 872, 223, 224, 27, 225, 217, 193, 194, 195, 51, 950, 14, 951, 952, 188, 189, 190, 191, 33, 34, 192, 196, 197, 198, 199, 37, 989, 990, 991, 992, 993, 1002, 1003, 1004, 1005, 1006, 1007, 1008, 1009, 1010, 1011, 1021, 1022, 1023] (by decide +kernel) (by decide +kernel)
set_option maxRecDepth 20000 in
theorem gL_law_X5_poisonedIfScrubbed : GoodIn wsL_law (wsV RL 189 RX5 yX5_poisonedIfScrubbed wsX5_poisonedIfScrubbed) := goodIn_app (goodIn_of _ (by decide +kernel)) ggL_law_X5_poisonedIfScrubbed
set_option maxRecDepth 20000 in
theorem ggL_law_X6_poisonedIfScrubbed : GoodIn wsL_law wsX6_poisonedIfScrubbed := goodIn_r _ [956, 877, 878, 879, 5, 880, 159, 160, 161, 238, 239, 240, 241, 78, 957, 958, 959, 960, 234, 235, 236, 237, 242, 243, 244, 245, 246, 247, 248, 994, 995, 996, 997, 998, 999, 1000, 1001] (by decide +kernel) (by decide +kernel)
set_option maxRecDepth 20000 in
theorem gL_law_X6_poisonedIfScrubbed : GoodIn wsL_law (wsV RL 192 RX6 yX6_poisonedIfScrubbed wsX6_poisonedIfScrubbed) := goodIn_app (goodIn_of _ (by decide +kernel)) ggL_law_X6_poisonedIfScrubbed
set_option maxRecDepth 20000 in
theorem ggL_law_X5_bestScrub : GoodIn wsL_law wsX5_bestScrub := goodIn_r _ [964, 15, 950, 14, 951, 952, 188, 189, 190, 191, 33, 34, 192, 193, 194, 27, 195, 51, 196, 197, 198, 199, 37, 989, 990, 991, 992, 993, 1002, 1003, 1004, 1005, 1006, 1007, 1008, 1009, 1010, 1011, 1021, 1022, 1023] (by decide +kernel) (by decide +kernel)
set_option maxRecDepth 20000 in
theorem gL_law_X5_bestScrub : GoodIn wsL_law (wsV RL 193 RX5 yX5_bestScrub wsX5_bestScrub) := goodIn_app (goodIn_of _ (by decide +kernel)) ggL_law_X5_bestScrub
set_option maxRecDepth 20000 in
theorem ggL_law_X6_bestScrub : GoodIn wsL_law wsX6_bestScrub := goodIn_r _ [968, 957, 958, 959, 5, 960, 234, 235, 236, 237, 159, 160, 161, 238, 239, 240, 241, 78, 242, 243, 244, 245, 246, 247, 248, 994, 995, 996, 997, 998, 999, 1000, 1001] (by decide +kernel) (by decide +kernel)
set_option maxRecDepth 20000 in
theorem gL_law_X6_bestScrub : GoodIn wsL_law (wsV RL 196 RX6 yX6_bestScrub wsX6_bestScrub) := goodIn_app (goodIn_of _ (by decide +kernel)) ggL_law_X6_bestScrub
set_option maxRecDepth 20000 in
theorem ggL_law_X5_carriersWithout : GoodIn wsL_law wsX5_carriersWithout := goodIn_r _ [972, 15, 832, 14, 833, 834, 100, 736, 121, 2, 122, 885, 886, 887, 33, 35, 888, 889, 890, 27, 891, 51, 989, 990, 991, 992, 993, 1002, 1003, 1004, 1005, 1006, 1007, 1008, 1009, 1010, 1011, 1021, 1022, 1023] (by decide +kernel) (by decide +kernel)
set_option maxRecDepth 20000 in
theorem gL_law_X5_carriersWithout : GoodIn wsL_law (wsV RL 197 RX5 yX5_carriersWithout wsX5_carriersWithout) := goodIn_app (goodIn_of _ (by decide +kernel)) ggL_law_X5_carriersWithout
set_option maxRecDepth 20000 in
theorem ggL_law_X6_carriersWithout : GoodIn wsL_law wsX6_carriersWithout := goodIn_r _ [976, 78, 839, 840, 841, 5, 842, 144, 145, 146, 141, 142, 143, 896, 897, 898, 899, 900, 901, 902, 903, 159, 160, 161, 994, 995, 996, 997, 998, 999, 1000, 1001] (by decide +kernel) (by decide +kernel)
set_option maxRecDepth 20000 in
theorem gL_law_X6_carriersWithout : GoodIn wsL_law (wsV RL 200 RX6 yX6_carriersWithout wsX6_carriersWithout) := goodIn_app (goodIn_of _ (by decide +kernel)) ggL_law_X6_carriersWithout
set_option maxRecDepth 20000 in
theorem ggL_law_X5_stopsAt : GoodIn wsL_law wsX5_stopsAt := goodIn_r _ [980, 24, 16, 15, 564, 565, 566, 23, 567, 568, 542, 569, 570, 571, 572, 573, 574, 575, 576, 71, 577, 578, 579, 580, 581, 582, 583, 584, 585, 586, 587, 588, 589, 590, 591, 592, 593, 594, 595, 596, 597, 598, 599, 600, 601, 602, 603, 604, 605, 606, 607, 608, 609, 610, 611, 612, 613, 614, 615, 616, 617, 618, 619, 620, 621, 622, 623, 624, 625, 626, 627, 628, 629, 630, 631, 632, 633, 634, 635, 636, 637, 638, 639, 640, 641, 642, 643, 644, 645, 646, 647, 648, 649, 650, 651, 72, 652, 653, 654, 655, 656, 657, 658, 659, 981, 93, 94, 14, 95, 33, 34, 35, 39, 96, 97, 98, 99, 41, 37, 40, 45, 100, 101, 102, 103, 104, 27, 105, 50, 106, 51, 52, 107, 108, 109, 110, 111, 112, 44, 113, 60, 114, 115, 116, 982, 983, 984, 694, 695, 696, 697, 698, 699, 700, 701, 2, 702, 369, 370, 371, 372, 317, 318, 351, 352, 121, 122, 334, 335, 373, 374, 375, 376, 184, 185, 186, 187, 188, 189, 190, 191, 192, 193, 194, 195, 196, 197, 198, 199, 200, 201, 202, 203, 204, 124, 125, 126, 209, 210, 211, 212, 213, 214, 215, 216, 217, 409, 410, 411, 412, 205, 206, 207, 208, 218, 219, 220, 221, 441, 442, 443, 444, 457, 458, 459, 460, 461, 462, 463, 464, 465, 466, 467, 468, 469, 470, 471, 472, 473, 267, 268, 269, 270, 474, 475, 476, 477, 522, 523, 524, 525, 117, 118, 119, 120, 123, 347, 348, 349, 350, 264, 265, 266, 703, 131, 132, 989, 990, 991, 992, 993, 1015, 1016, 1017, 1018, 1019, 1020, 1002, 1003, 1004, 1005, 1006, 1007, 1008, 1009, 1010, 1011, 1021, 1022, 1023, 1024, 1025, 1026] (by decide +kernel) (by decide +kernel)
set_option maxRecDepth 20000 in
theorem gL_law_X5_stopsAt : GoodIn wsL_law (wsV RL 201 RX5 yX5_stopsAt wsX5_stopsAt) := goodIn_app (goodIn_of _ (by decide +kernel)) ggL_law_X5_stopsAt
set_option maxRecDepth 20000 in
theorem ggL_law_X6_stopsAt : GoodIn wsL_law wsX6_stopsAt := goodIn_r _ [988, 665, 666, 667, 5, 668, 664, 547, 669, 670, 671, 672, 673, 275, 674, 675, 676, 677, 79, 678, 679, 680, 681, 80, 144, 145, 146, 682, 683, 684, 685, 686, 687, 688, 689, 708, 709, 710, 711, 147, 148, 149, 150, 151, 152, 153, 154, 78, 712, 713, 714, 715, 716, 717, 718, 719, 381, 382, 383, 384, 361, 362, 363, 364, 230, 231, 232, 233, 234, 235, 236, 237, 159, 160, 161, 238, 239, 240, 241, 242, 243, 244, 245, 246, 247, 248, 162, 163, 164, 165, 340, 341, 342, 385, 386, 387, 388, 249, 250, 251, 417, 418, 419, 420, 252, 253, 254, 255, 449, 450, 451, 452, 482, 483, 484, 485, 486, 487, 488, 489, 490, 491, 492, 493, 494, 495, 496, 497, 530, 531, 532, 533, 155, 156, 157, 158, 357, 358, 359, 360, 171, 172, 173, 994, 995, 996, 997, 998, 999, 1000, 1001] (by decide +kernel) (by decide +kernel)
set_option maxRecDepth 20000 in
theorem gL_law_X6_stopsAt : GoodIn wsL_law (wsV RL 204 RX6 yX6_stopsAt wsX6_stopsAt) := goodIn_app (goodIn_of _ (by decide +kernel)) ggL_law_X6_stopsAt
theorem dL_law_0 : decode cL_law 0 = .ok (.new 7, 3) := by decide +kernel
theorem dL_law_3 : decode cL_law 3 = .ok (.dup, 1) := by decide +kernel
theorem dL_law_4 : decode cL_law 4 = .ok (.invokespecial 9, 3) := by decide +kernel
theorem dL_law_7 : decode cL_law 7 = .ok (.astore_n 1, 1) := by decide +kernel
theorem dL_law_8 : decode cL_law 8 = .ok (.new 10, 3) := by decide +kernel
theorem dL_law_11 : decode cL_law 11 = .ok (.dup, 1) := by decide +kernel
theorem dL_law_12 : decode cL_law 12 = .ok (.invokespecial 12, 3) := by decide +kernel
theorem dL_law_15 : decode cL_law 15 = .ok (.astore_n 2, 1) := by decide +kernel
theorem dL_law_16 : decode cL_law 16 = .ok (.iconst 0, 1) := by decide +kernel
theorem dL_law_17 : decode cL_law 17 = .ok (.istore_n 3, 1) := by decide +kernel
theorem dL_law_18 : decode cL_law 18 = .ok (.iload_n 3, 1) := by decide +kernel
theorem dL_law_19 : decode cL_law 19 = .ok (.aload_n 0, 1) := by decide +kernel
theorem dL_law_20 : decode cL_law 20 = .ok (.arraylength, 1) := by decide +kernel
theorem dL_law_21 : decode cL_law 21 = .ok (.bipush 6, 2) := by decide +kernel
theorem dL_law_23 : decode cL_law 23 = .ok (.isub, 1) := by decide +kernel
theorem dL_law_24 : decode cL_law 24 = .ok (.if_icmp .gt 1508, 3) := by decide +kernel
theorem dL_law_27 : decode cL_law 27 = .ok (.aload_n 0, 1) := by decide +kernel
theorem dL_law_28 : decode cL_law 28 = .ok (.iload_n 3, 1) := by decide +kernel
theorem dL_law_29 : decode cL_law 29 = .ok (.iaload, 1) := by decide +kernel
theorem dL_law_30 : decode cL_law 30 = .ok (.bipush 63, 2) := by decide +kernel
theorem dL_law_32 : decode cL_law 32 = .ok (.iand, 1) := by decide +kernel
theorem dL_law_33 : decode cL_law 33 = .ok (.tableswitch 1493 0 45 #[199, 222, 265, 308, 357, 380, 413, 436, 479, 522, 575, 618, 671, 714, 777, 820, 853, 876, 889, 902, 915, 928, 951, 974, 997, 1020, 1043, 1076, 1109, 1142, 1165, 1188, 1201, 1224, 1237, 1270, 1283, 1306, 1329, 1352, 1365, 1378, 1421, 1434, 1447, 1480], 199) := by decide +kernel
theorem dL_law_232 : decode cL_law 232 = .ok (.aload_n 1, 1) := by decide +kernel
theorem dL_law_233 : decode cL_law 233 = .ok (.aload_n 0, 1) := by decide +kernel
theorem dL_law_234 : decode cL_law 234 = .ok (.iload_n 3, 1) := by decide +kernel
theorem dL_law_235 : decode cL_law 235 = .ok (.iconst 1, 1) := by decide +kernel
theorem dL_law_236 : decode cL_law 236 = .ok (.iadd, 1) := by decide +kernel
theorem dL_law_237 : decode cL_law 237 = .ok (.iaload, 1) := by decide +kernel
theorem dL_law_238 : decode cL_law 238 = .ok (.invokevirtual 13, 3) := by decide +kernel
theorem dL_law_241 : decode cL_law 241 = .ok (.aload_n 2, 1) := by decide +kernel
theorem dL_law_242 : decode cL_law 242 = .ok (.aload_n 0, 1) := by decide +kernel
theorem dL_law_243 : decode cL_law 243 = .ok (.iload_n 3, 1) := by decide +kernel
theorem dL_law_244 : decode cL_law 244 = .ok (.iconst 1, 1) := by decide +kernel
theorem dL_law_245 : decode cL_law 245 = .ok (.iadd, 1) := by decide +kernel
theorem dL_law_246 : decode cL_law 246 = .ok (.iaload, 1) := by decide +kernel
theorem dL_law_247 : decode cL_law 247 = .ok (.invokevirtual 17, 3) := by decide +kernel
theorem dL_law_250 : decode cL_law 250 = .ok (.if_icmp .eq 1276, 3) := by decide +kernel
theorem dL_law_253 : decode cL_law 253 = .ok (.iconst 0, 1) := by decide +kernel
theorem dL_law_254 : decode cL_law 254 = .ok (.ireturn, 1) := by decide +kernel
theorem dL_law_255 : decode cL_law 255 = .ok (.aload_n 1, 1) := by decide +kernel
theorem dL_law_256 : decode cL_law 256 = .ok (.aload_n 0, 1) := by decide +kernel
theorem dL_law_257 : decode cL_law 257 = .ok (.iload_n 3, 1) := by decide +kernel
theorem dL_law_258 : decode cL_law 258 = .ok (.iconst 1, 1) := by decide +kernel
theorem dL_law_259 : decode cL_law 259 = .ok (.iadd, 1) := by decide +kernel
theorem dL_law_260 : decode cL_law 260 = .ok (.iaload, 1) := by decide +kernel
theorem dL_law_261 : decode cL_law 261 = .ok (.aload_n 0, 1) := by decide +kernel
theorem dL_law_262 : decode cL_law 262 = .ok (.iload_n 3, 1) := by decide +kernel
theorem dL_law_263 : decode cL_law 263 = .ok (.iconst 2, 1) := by decide +kernel
theorem dL_law_264 : decode cL_law 264 = .ok (.iadd, 1) := by decide +kernel
theorem dL_law_265 : decode cL_law 265 = .ok (.iaload, 1) := by decide +kernel
theorem dL_law_266 : decode cL_law 266 = .ok (.aload_n 0, 1) := by decide +kernel
theorem dL_law_267 : decode cL_law 267 = .ok (.iload_n 3, 1) := by decide +kernel
theorem dL_law_268 : decode cL_law 268 = .ok (.iconst 3, 1) := by decide +kernel
theorem dL_law_269 : decode cL_law 269 = .ok (.iadd, 1) := by decide +kernel
theorem dL_law_270 : decode cL_law 270 = .ok (.iaload, 1) := by decide +kernel
theorem dL_law_271 : decode cL_law 271 = .ok (.invokevirtual 18, 3) := by decide +kernel
theorem dL_law_274 : decode cL_law 274 = .ok (.aload_n 2, 1) := by decide +kernel
theorem dL_law_275 : decode cL_law 275 = .ok (.aload_n 0, 1) := by decide +kernel
theorem dL_law_276 : decode cL_law 276 = .ok (.iload_n 3, 1) := by decide +kernel
theorem dL_law_277 : decode cL_law 277 = .ok (.iconst 1, 1) := by decide +kernel
theorem dL_law_278 : decode cL_law 278 = .ok (.iadd, 1) := by decide +kernel
theorem dL_law_279 : decode cL_law 279 = .ok (.iaload, 1) := by decide +kernel
theorem dL_law_280 : decode cL_law 280 = .ok (.aload_n 0, 1) := by decide +kernel
theorem dL_law_281 : decode cL_law 281 = .ok (.iload_n 3, 1) := by decide +kernel
theorem dL_law_282 : decode cL_law 282 = .ok (.iconst 2, 1) := by decide +kernel
theorem dL_law_283 : decode cL_law 283 = .ok (.iadd, 1) := by decide +kernel
theorem dL_law_284 : decode cL_law 284 = .ok (.iaload, 1) := by decide +kernel
theorem dL_law_285 : decode cL_law 285 = .ok (.aload_n 0, 1) := by decide +kernel
theorem dL_law_286 : decode cL_law 286 = .ok (.iload_n 3, 1) := by decide +kernel
theorem dL_law_287 : decode cL_law 287 = .ok (.iconst 3, 1) := by decide +kernel
theorem dL_law_288 : decode cL_law 288 = .ok (.iadd, 1) := by decide +kernel
theorem dL_law_289 : decode cL_law 289 = .ok (.iaload, 1) := by decide +kernel
theorem dL_law_290 : decode cL_law 290 = .ok (.invokevirtual 22, 3) := by decide +kernel
theorem dL_law_293 : decode cL_law 293 = .ok (.if_icmp .eq 1233, 3) := by decide +kernel
theorem dL_law_296 : decode cL_law 296 = .ok (.iconst 0, 1) := by decide +kernel
theorem dL_law_297 : decode cL_law 297 = .ok (.ireturn, 1) := by decide +kernel
theorem dL_law_298 : decode cL_law 298 = .ok (.aload_n 1, 1) := by decide +kernel
theorem dL_law_299 : decode cL_law 299 = .ok (.aload_n 0, 1) := by decide +kernel
theorem dL_law_300 : decode cL_law 300 = .ok (.iload_n 3, 1) := by decide +kernel
theorem dL_law_301 : decode cL_law 301 = .ok (.iconst 1, 1) := by decide +kernel
theorem dL_law_302 : decode cL_law 302 = .ok (.iadd, 1) := by decide +kernel
theorem dL_law_303 : decode cL_law 303 = .ok (.iaload, 1) := by decide +kernel
theorem dL_law_304 : decode cL_law 304 = .ok (.aload_n 0, 1) := by decide +kernel
theorem dL_law_305 : decode cL_law 305 = .ok (.iload_n 3, 1) := by decide +kernel
theorem dL_law_306 : decode cL_law 306 = .ok (.iconst 2, 1) := by decide +kernel
theorem dL_law_307 : decode cL_law 307 = .ok (.iadd, 1) := by decide +kernel
theorem dL_law_308 : decode cL_law 308 = .ok (.iaload, 1) := by decide +kernel
theorem dL_law_309 : decode cL_law 309 = .ok (.aload_n 0, 1) := by decide +kernel
theorem dL_law_310 : decode cL_law 310 = .ok (.iload_n 3, 1) := by decide +kernel
theorem dL_law_311 : decode cL_law 311 = .ok (.iconst 3, 1) := by decide +kernel
theorem dL_law_312 : decode cL_law 312 = .ok (.iadd, 1) := by decide +kernel
theorem dL_law_313 : decode cL_law 313 = .ok (.iaload, 1) := by decide +kernel
theorem dL_law_314 : decode cL_law 314 = .ok (.invokevirtual 23, 3) := by decide +kernel
theorem dL_law_317 : decode cL_law 317 = .ok (.aload_n 2, 1) := by decide +kernel
theorem dL_law_318 : decode cL_law 318 = .ok (.aload_n 0, 1) := by decide +kernel
theorem dL_law_319 : decode cL_law 319 = .ok (.iload_n 3, 1) := by decide +kernel
theorem dL_law_320 : decode cL_law 320 = .ok (.iconst 1, 1) := by decide +kernel
theorem dL_law_321 : decode cL_law 321 = .ok (.iadd, 1) := by decide +kernel
theorem dL_law_322 : decode cL_law 322 = .ok (.iaload, 1) := by decide +kernel
theorem dL_law_323 : decode cL_law 323 = .ok (.aload_n 0, 1) := by decide +kernel
theorem dL_law_324 : decode cL_law 324 = .ok (.iload_n 3, 1) := by decide +kernel
theorem dL_law_325 : decode cL_law 325 = .ok (.iconst 2, 1) := by decide +kernel
theorem dL_law_326 : decode cL_law 326 = .ok (.iadd, 1) := by decide +kernel
theorem dL_law_327 : decode cL_law 327 = .ok (.iaload, 1) := by decide +kernel
theorem dL_law_328 : decode cL_law 328 = .ok (.aload_n 0, 1) := by decide +kernel
theorem dL_law_329 : decode cL_law 329 = .ok (.iload_n 3, 1) := by decide +kernel
theorem dL_law_330 : decode cL_law 330 = .ok (.iconst 3, 1) := by decide +kernel
theorem dL_law_331 : decode cL_law 331 = .ok (.iadd, 1) := by decide +kernel
theorem dL_law_332 : decode cL_law 332 = .ok (.iaload, 1) := by decide +kernel
theorem dL_law_333 : decode cL_law 333 = .ok (.invokevirtual 26, 3) := by decide +kernel
theorem dL_law_336 : decode cL_law 336 = .ok (.if_icmp .eq 1190, 3) := by decide +kernel
theorem dL_law_339 : decode cL_law 339 = .ok (.iconst 0, 1) := by decide +kernel
theorem dL_law_340 : decode cL_law 340 = .ok (.ireturn, 1) := by decide +kernel
theorem dL_law_341 : decode cL_law 341 = .ok (.aload_n 1, 1) := by decide +kernel
theorem dL_law_342 : decode cL_law 342 = .ok (.aload_n 0, 1) := by decide +kernel
