set_option maxRecDepth 20000 in
theorem ggL_law_X5_init : GoodIn wsL_law wsX5_init := goodIn_r _ [8, 9, 10, 11, 12, 13, 14, 15, 16, 17, 18, 19, 20, 21, 22, 23, 24, 25, 26, 27, 28, 29, 30, 31, 32, 33, 34, 35, 36, 37, 38, 39, 40, 41, 42, 43, 44, 45, 46, 47, 48, 49, 50, 51, 52, 53, 54, 55, 56, 57, 58, 59, 60, 61, 62, 63, 64, 65, 66, 67, 68, 69, 70, 71, 72, 73, 999, 1000, 1001, 1002, 1003, 1004, 1005, 1006, 1007, 1008, 986, 987, 988, 989, 990, 1009, 1010, 1011, 1012, 1013, 1014, 1015, 1016, 1017, 1018, 1019, 1020, 1021, 1022, 1023] (by decide +kernel) (by decide +kernel)
set_option maxRecDepth 20000 in
theorem gL_law_X5_init : GoodIn wsL_law (wsX5_init) := ggL_law_X5_init
set_option maxRecDepth 20000 in
theorem ggL_law_X6_init : GoodIn wsL_law wsX6_init := goodIn_r _ [76, 77, 10, 11, 38, 78, 79, 80, 81, 991, 992, 993, 994, 995, 996, 997, 998] (by decide +kernel) (by decide +kernel)
set_option maxRecDepth 20000 in
theorem gL_law_X6_init : GoodIn wsL_law (wsX6_init) := ggL_law_X6_init
set_option maxRecDepth 20000 in
theorem ggL_law_X5_inject : GoodIn wsL_law wsX5_inject := goodIn_r _ [85, 20, 15, 86, 87, 88, 19, 89, 66, 90, 91, 92, 93, 94, 14, 95, 33, 34, 35, 37, 96, 97, 98, 99, 39, 40, 41, 45, 100, 101, 102, 103, 104, 27, 105, 50, 106, 51, 52, 107, 108, 109, 44, 110, 60, 111, 112, 113, 114, 115, 116, 117, 118, 2, 119, 120, 121, 122, 123, 124, 125, 126, 127, 128, 129, 130, 131, 132, 133, 986, 987, 988, 989, 990, 1009, 1010, 1011, 999, 1000, 1001, 1002, 1003, 1004, 1005, 1006, 1007, 1008, 1018, 1019, 1020, 1021, 1022, 1023] (by decide +kernel) (by decide +kernel)
set_option maxRecDepth 20000 in
theorem gL_law_X5_inject : GoodIn wsL_law (wsV RL 13 RX5 yX5_inject wsX5_inject) := goodIn_app (goodIn_of _ (by decide +kernel)) ggL_law_X5_inject
set_option maxRecDepth 20000 in
theorem ggL_law_X6_inject : GoodIn wsL_law wsX6_inject := goodIn_r _ [137, 138, 139, 5, 140, 141, 142, 143, 144, 145, 146, 147, 148, 149, 150, 151, 78, 152, 153, 154, 155, 156, 157, 158, 159, 160, 161, 162, 163, 164, 165, 166, 167, 168, 169, 170, 991, 992, 993, 994, 995, 996, 997, 998] (by decide +kernel) (by decide +kernel)
set_option maxRecDepth 20000 in
theorem gL_law_X6_inject : GoodIn wsL_law (wsV RL 17 RX6 yX6_inject wsX6_inject) := goodIn_app (goodIn_of _ (by decide +kernel)) ggL_law_X6_inject
set_option maxRecDepth 20000 in
theorem ggL_law_X5_copyBlock : GoodIn wsL_law wsX5_copyBlock := goodIn_r _ [174, 20, 15, 28, 86, 87, 88, 19, 89, 66, 90, 91, 92, 93, 94, 14, 95, 33, 34, 35, 37, 96, 97, 98, 99, 39, 40, 41, 45, 100, 101, 102, 103, 104, 27, 105, 50, 106, 51, 52, 107, 108, 109, 44, 110, 60, 111, 112, 113, 175, 176, 177, 178, 118, 2, 119, 179, 180, 181, 182, 183, 184, 185, 186, 187, 188, 189, 190, 191, 192, 193, 194, 195, 196, 197, 198, 199, 200, 201, 121, 122, 123, 202, 203, 204, 205, 206, 207, 208, 209, 210, 211, 212, 213, 214, 215, 216, 217, 218, 219, 220, 221, 222, 124, 125, 126, 127, 128, 129, 130, 131, 132, 133, 986, 987, 988, 989, 990, 1009, 1010, 1011, 999, 1000, 1001, 1002, 1003, 1004, 1005, 1006, 1007, 1008, 1018, 1019, 1020, 1021, 1022, 1023] (by decide +kernel) (by decide +kernel)
set_option maxRecDepth 20000 in
theorem gL_law_X5_copyBlock : GoodIn wsL_law (wsV RL 18 RX5 yX5_copyBlock wsX5_copyBlock) := goodIn_app (goodIn_of _ (by decide +kernel)) ggL_law_X5_copyBlock
set_option maxRecDepth 20000 in
theorem ggL_law_X6_copyBlock : GoodIn wsL_law wsX6_copyBlock := goodIn_r _ [226, 81, 78, 138, 139, 5, 140, 141, 142, 143, 144, 145, 146, 147, 148, 149, 150, 151, 227, 228, 229, 230, 231, 232, 233, 234, 156, 157, 158, 235, 236, 237, 238, 239, 240, 241, 242, 243, 244, 245, 159, 160, 161, 162, 246, 247, 248, 249, 250, 251, 252, 163, 164, 165, 166, 167, 168, 169, 170, 991, 992, 993, 994, 995, 996, 997, 998] (by decide +kernel) (by decide +kernel)
set_option maxRecDepth 20000 in
theorem gL_law_X6_copyBlock : GoodIn wsL_law (wsV RL 22 RX6 yX6_copyBlock wsX6_copyBlock) := goodIn_app (goodIn_of _ (by decide +kernel)) ggL_law_X6_copyBlock
set_option maxRecDepth 20000 in
theorem ggL_law_X5_fill : GoodIn wsL_law wsX5_fill := goodIn_r _ [256, 20, 15, 86, 87, 88, 19, 89, 66, 90, 91, 92, 93, 94, 14, 95, 33, 34, 35, 37, 96, 97, 98, 99, 39, 40, 41, 45, 100, 101, 102, 103, 104, 27, 105, 50, 106, 51, 52, 107, 108, 109, 44, 110, 60, 111, 112, 113, 257, 258, 259, 260, 118, 2, 119, 179, 180, 261, 262, 263, 219, 220, 221, 222, 214, 190, 191, 192, 264, 265, 266, 267, 201, 121, 122, 123, 215, 216, 217, 218, 193, 194, 195, 196, 197, 198, 199, 200, 124, 125, 126, 127, 128, 129, 130, 131, 132, 133, 986, 987, 988, 989, 990, 1009, 1010, 1011, 999, 1000, 1001, 1002, 1003, 1004, 1005, 1006, 1007, 1008, 1018, 1019, 1020, 1021, 1022, 1023] (by decide +kernel) (by decide +kernel)
set_option maxRecDepth 20000 in
theorem gL_law_X5_fill : GoodIn wsL_law (wsV RL 23 RX5 yX5_fill wsX5_fill) := goodIn_app (goodIn_of _ (by decide +kernel)) ggL_law_X5_fill
set_option maxRecDepth 20000 in
theorem ggL_law_X6_fill : GoodIn wsL_law wsX6_fill := goodIn_r _ [271, 272, 138, 139, 5, 140, 141, 142, 143, 144, 145, 146, 147, 148, 149, 150, 151, 78, 156, 157, 158, 235, 236, 237, 238, 159, 160, 161, 162, 249, 250, 251, 252, 239, 240, 241, 242, 243, 244, 245, 163, 164, 165, 166, 167, 168, 169, 170, 991, 992, 993, 994, 995, 996, 997, 998] (by decide +kernel) (by decide +kernel)
set_option maxRecDepth 20000 in
theorem gL_law_X6_fill : GoodIn wsL_law (wsV RL 26 RX6 yX6_fill wsX6_fill) := goodIn_app (goodIn_of _ (by decide +kernel)) ggL_law_X6_fill
set_option maxRecDepth 20000 in
theorem ggL_law_X5_setMirror : GoodIn wsL_law wsX5_setMirror := goodIn_r _ [276, 20, 15, 86, 87, 88, 19, 89, 66, 90, 91, 92, 93, 94, 14, 95, 33, 34, 35, 37, 96, 97, 98, 99, 39, 40, 41, 45, 100, 101, 102, 103, 104, 27, 105, 50, 106, 51, 52, 107, 108, 109, 44, 110, 60, 111, 112, 113, 277, 278, 279, 280, 281, 2, 282, 215, 216, 217, 218, 193, 194, 195, 196, 197, 198, 199, 200, 201, 121, 122, 123, 283, 284, 285, 286, 124, 125, 126, 127, 128, 129, 130, 131, 132, 133, 986, 987, 988, 989, 990, 1009, 1010, 1011, 999, 1000, 1001, 1002, 1003, 1004, 1005, 1006, 1007, 1008, 1018, 1019, 1020, 1021, 1022, 1023] (by decide +kernel) (by decide +kernel)
set_option maxRecDepth 20000 in
theorem gL_law_X5_setMirror : GoodIn wsL_law (wsV RL 27 RX5 yX5_setMirror wsX5_setMirror) := goodIn_app (goodIn_of _ (by decide +kernel)) ggL_law_X5_setMirror
set_option maxRecDepth 20000 in
theorem ggL_law_X6_setMirror : GoodIn wsL_law wsX6_setMirror := goodIn_r _ [290, 78, 291, 292, 5, 293, 141, 142, 143, 144, 145, 146, 147, 148, 149, 150, 151, 249, 250, 251, 252, 156, 157, 158, 239, 240, 241, 242, 243, 244, 245, 159, 160, 161, 162, 163, 164, 165, 166, 167, 168, 169, 170, 991, 992, 993, 994, 995, 996, 997, 998] (by decide +kernel) (by decide +kernel)
set_option maxRecDepth 20000 in
theorem gL_law_X6_setMirror : GoodIn wsL_law (wsV RL 31 RX6 yX6_setMirror wsX6_setMirror) := goodIn_app (goodIn_of _ (by decide +kernel)) ggL_law_X6_setMirror
set_option maxRecDepth 20000 in
theorem ggL_law_X5_scrub : GoodIn wsL_law wsX5_scrub := goodIn_r _ [297, 20, 15, 86, 87, 88, 19, 89, 66, 90, 91, 92, 93, 94, 14, 95, 33, 34, 35, 37, 96, 97, 98, 99, 39, 40, 41, 45, 100, 101, 102, 103, 104, 27, 105, 50, 106, 51, 52, 107, 108, 109, 44, 110, 60, 111, 112, 113, 298, 299, 300, 301, 281, 2, 282, 181, 182, 183, 184, 185, 186, 187, 188, 189, 190, 191, 192, 193, 194, 195, 196, 197, 198, 199, 200, 201, 121, 122, 123, 124, 125, 126, 127, 128, 129, 130, 131, 132, 133, 986, 987, 988, 989, 990, 1009, 1010, 1011, 999, 1000, 1001, 1002, 1003, 1004, 1005, 1006, 1007, 1008, 1018, 1019, 1020, 1021, 1022, 1023] (by decide +kernel) (by decide +kernel)
set_option maxRecDepth 20000 in
theorem gL_law_X5_scrub : GoodIn wsL_law (wsV RL 32 RX5 yX5_scrub wsX5_scrub) := goodIn_app (goodIn_of _ (by decide +kernel)) ggL_law_X5_scrub
set_option maxRecDepth 20000 in
theorem ggL_law_X6_scrub : GoodIn wsL_law wsX6_scrub := goodIn_r _ [305, 291, 292, 5, 293, 141, 142, 143, 144, 145, 146, 147, 148, 149, 150, 151, 78, 227, 228, 229, 230, 231, 232, 233, 234, 156, 157, 158, 235, 236, 237, 238, 239, 240, 241, 242, 243, 244, 245, 159, 160, 161, 162, 163, 164, 165, 166, 167, 168, 169, 170, 991, 992, 993, 994, 995, 996, 997, 998] (by decide +kernel) (by decide +kernel)
set_option maxRecDepth 20000 in
theorem gL_law_X6_scrub : GoodIn wsL_law (wsV RL 35 RX6 yX6_scrub wsX6_scrub) := goodIn_app (goodIn_of _ (by decide +kernel)) ggL_law_X6_scrub
set_option maxRecDepth 20000 in
theorem ggL_law_X5_setMode : GoodIn wsL_law wsX5_setMode := goodIn_r _ [309, 20, 15, 86, 87, 88, 19, 89, 66, 90, 91, 92, 93, 94, 14, 95, 33, 34, 35, 37, 96, 97, 98, 99, 39, 40, 41, 45, 100, 101, 102, 103, 104, 27, 105, 50, 106, 51, 52, 107, 108, 109, 44, 110, 60, 111, 112, 113, 310, 311, 312, 313, 314, 2, 315, 124, 125, 126, 127, 128, 129, 130, 131, 132, 133, 986, 987, 988, 989, 990, 1009, 1010, 1011, 999, 1000, 1001, 1002, 1003, 1004, 1005, 1006, 1007, 1008, 1018, 1019, 1020, 1021, 1022, 1023] (by decide +kernel) (by decide +kernel)
set_option maxRecDepth 20000 in
theorem gL_law_X5_setMode : GoodIn wsL_law (wsV RL 36 RX5 yX5_setMode wsX5_setMode) := goodIn_app (goodIn_of _ (by decide +kernel)) ggL_law_X5_setMode
set_option maxRecDepth 20000 in
theorem ggL_law_X6_setMode : GoodIn wsL_law wsX6_setMode := goodIn_r _ [319, 78, 320, 321, 5, 322, 141, 142, 143, 144, 145, 146, 147, 148, 149, 150, 151, 163, 164, 165, 166, 167, 168, 169, 170, 991, 992, 993, 994, 995, 996, 997, 998] (by decide +kernel) (by decide +kernel)
set_option maxRecDepth 20000 in
theorem gL_law_X6_setMode : GoodIn wsL_law (wsV RL 40 RX6 yX6_setMode wsX6_setMode) := goodIn_app (goodIn_of _ (by decide +kernel)) ggL_law_X6_setMode
set_option maxRecDepth 20000 in
theorem ggL_law_X5_restart : GoodIn wsL_law wsX5_restart := goodIn_r _ [326, 20, 15, 86, 87, 88, 19, 89, 66, 90, 91, 92, 93, 94, 14, 95, 33, 34, 35, 37, 96, 97, 98, 99, 39, 40, 41, 45, 100, 101, 102, 103, 104, 27, 105, 50, 106, 51, 52, 107, 108, 109, 44, 110, 60, 111, 112, 113, 327, 328, 329, 330, 314, 2, 315, 331, 332, 219, 220, 221, 222, 214, 190, 191, 192, 264, 265, 266, 267, 201, 121, 122, 123, 124, 125, 126, 127, 128, 129, 130, 131, 132, 133, 986, 987, 988, 989, 990, 1009, 1010, 1011, 999, 1000, 1001, 1002, 1003, 1004, 1005, 1006, 1007, 1008, 1018, 1019, 1020, 1021, 1022, 1023] (by decide +kernel) (by decide +kernel)
set_option maxRecDepth 20000 in
theorem gL_law_X5_restart : GoodIn wsL_law (wsV RL 41 RX5 yX5_restart wsX5_restart) := goodIn_app (goodIn_of _ (by decide +kernel)) ggL_law_X5_restart
set_option maxRecDepth 20000 in
theorem ggL_law_X6_restart : GoodIn wsL_law wsX6_restart := goodIn_r _ [336, 78, 320, 321, 5, 322, 141, 142, 143, 144, 145, 146, 147, 148, 149, 150, 151, 337, 338, 339, 235, 236, 237, 238, 159, 160, 161, 162, 163, 164, 165, 166, 167, 168, 169, 170, 991, 992, 993, 994, 995, 996, 997, 998] (by decide +kernel) (by decide +kernel)
set_option maxRecDepth 20000 in
theorem gL_law_X6_restart : GoodIn wsL_law (wsV RL 44 RX6 yX6_restart wsX6_restart) := goodIn_app (goodIn_of _ (by decide +kernel)) ggL_law_X6_restart
set_option maxRecDepth 20000 in
theorem ggL_law_X5_setRegister : GoodIn wsL_law wsX5_setRegister := goodIn_r _ [343, 20, 15, 86, 87, 88, 19, 89, 66, 90, 91, 92, 93, 94, 14, 95, 33, 34, 35, 37, 96, 97, 98, 99, 39, 40, 41, 45, 100, 101, 102, 103, 104, 27, 105, 50, 106, 51, 52, 107, 108, 109, 44, 110, 60, 111, 112, 113, 344, 345, 346, 347, 314, 2, 315, 348, 349, 261, 262, 263, 331, 332, 264, 265, 266, 267, 201, 121, 122, 123, 124, 125, 126, 127, 128, 129, 130, 131, 132, 133, 986, 987, 988, 989, 990, 1009, 1010, 1011, 999, 1000, 1001, 1002, 1003, 1004, 1005, 1006, 1007, 1008, 1018, 1019, 1020, 1021, 1022, 1023] (by decide +kernel) (by decide +kernel)
set_option maxRecDepth 20000 in
theorem gL_law_X5_setRegister : GoodIn wsL_law (wsV RL 45 RX5 yX5_setRegister wsX5_setRegister) := goodIn_app (goodIn_of _ (by decide +kernel)) ggL_law_X5_setRegister
set_option maxRecDepth 20000 in
theorem ggL_law_X6_setRegister : GoodIn wsL_law wsX6_setRegister := goodIn_r _ [353, 272, 320, 321, 5, 322, 141, 142, 143, 144, 145, 146, 147, 148, 149, 150, 151, 78, 354, 355, 356, 357, 358, 359, 360, 361, 337, 338, 339, 159, 160, 161, 162, 163, 164, 165, 166, 167, 168, 169, 170, 991, 992, 993, 994, 995, 996, 997, 998] (by decide +kernel) (by decide +kernel)
set_option maxRecDepth 20000 in
theorem gL_law_X6_setRegister : GoodIn wsL_law (wsV RL 48 RX6 yX6_setRegister wsX6_setRegister) := goodIn_app (goodIn_of _ (by decide +kernel)) ggL_law_X6_setRegister
set_option maxRecDepth 20000 in
theorem ggL_law_X5_load : GoodIn wsL_law wsX5_load := goodIn_r _ [365, 20, 15, 86, 87, 88, 19, 89, 66, 90, 91, 92, 93, 94, 14, 95, 33, 34, 35, 37, 96, 97, 98, 99, 39, 40, 41, 45, 100, 101, 102, 103, 104, 27, 105, 50, 106, 51, 52, 107, 108, 109, 44, 110, 60, 111, 112, 113, 366, 367, 368, 369, 314, 2, 315, 348, 349, 118, 119, 331, 332, 370, 371, 372, 373, 181, 182, 183, 184, 185, 186, 187, 188, 189, 190, 191, 192, 193, 194, 195, 196, 197, 198, 199, 200, 201, 121, 122, 123, 206, 207, 208, 209, 210, 211, 212, 213, 214, 124, 125, 126, 127, 128, 129, 130, 131, 132, 133, 986, 987, 988, 989, 990, 1009, 1010, 1011, 999, 1000, 1001, 1002, 1003, 1004, 1005, 1006, 1007, 1008, 1018, 1019, 1020, 1021, 1022, 1023] (by decide +kernel) (by decide +kernel)
set_option maxRecDepth 20000 in
theorem gL_law_X5_load : GoodIn wsL_law (wsV RL 49 RX5 yX5_load wsX5_load) := goodIn_app (goodIn_of _ (by decide +kernel)) ggL_law_X5_load
set_option maxRecDepth 20000 in
theorem ggL_law_X6_load : GoodIn wsL_law wsX6_load := goodIn_r _ [377, 320, 321, 5, 322, 141, 142, 143, 138, 139, 140, 144, 145, 146, 147, 148, 149, 150, 151, 78, 378, 379, 380, 381, 358, 359, 360, 361, 227, 228, 229, 230, 231, 232, 233, 234, 156, 157, 158, 235, 236, 237, 238, 239, 240, 241, 242, 243, 244, 245, 159, 160, 161, 162, 337, 338, 339, 382, 383, 384, 385, 246, 247, 248, 163, 164, 165, 166, 167, 168, 169, 170, 991, 992, 993, 994, 995, 996, 997, 998] (by decide +kernel) (by decide +kernel)
set_option maxRecDepth 20000 in
theorem gL_law_X6_load : GoodIn wsL_law (wsV RL 52 RX6 yX6_load wsX6_load) := goodIn_app (goodIn_of _ (by decide +kernel)) ggL_law_X6_load
set_option maxRecDepth 20000 in
theorem ggL_law_X5_loadByte : GoodIn wsL_law wsX5_loadByte := goodIn_r _ [389, 20, 15, 86, 87, 88, 19, 89, 66, 90, 91, 92, 93, 94, 14, 95, 33, 34, 35, 37, 96, 97, 98, 99, 39, 40, 41, 45, 100, 101, 102, 103, 104, 27, 105, 50, 106, 51, 52, 107, 108, 109, 44, 110, 60, 111, 112, 113, 390, 391, 392, 393, 314, 2, 315, 348, 349, 118, 119, 394, 395, 331, 332, 370, 371, 372, 373, 181, 182, 183, 184, 185, 186, 187, 188, 189, 190, 191, 192, 193, 194, 195, 196, 197, 198, 199, 200, 201, 121, 122, 123, 206, 207, 208, 209, 210, 211, 212, 213, 214, 396, 397, 124, 125, 126, 127, 128, 129, 130, 131, 132, 133, 986, 987, 988, 989, 990, 1009, 1010, 1011, 999, 1000, 1001, 1002, 1003, 1004, 1005, 1006, 1007, 1008, 1018, 1019, 1020, 1021, 1022, 1023] (by decide +kernel) (by decide +kernel)
set_option maxRecDepth 20000 in
theorem gL_law_X5_loadByte : GoodIn wsL_law (wsV RL 53 RX5 yX5_loadByte wsX5_loadByte) := goodIn_app (goodIn_of _ (by decide +kernel)) ggL_law_X5_loadByte
set_option maxRecDepth 20000 in
theorem ggL_law_X6_loadByte : GoodIn wsL_law wsX6_loadByte := goodIn_r _ [401, 320, 321, 5, 322, 141, 142, 143, 138, 139, 140, 144, 145, 146, 147, 148, 149, 150, 151, 78, 378, 379, 380, 381, 358, 359, 360, 361, 227, 228, 229, 230, 231, 232, 233, 234, 156, 157, 158, 235, 236, 237, 238, 239, 240, 241, 242, 243, 244, 245, 159, 160, 161, 162, 337, 338, 339, 382, 383, 384, 385, 246, 247, 248, 163, 164, 165, 166, 167, 168, 169, 170, 991, 992, 993, 994, 995, 996, 997, 998] (by decide +kernel) (by decide +kernel)
set_option maxRecDepth 20000 in
theorem gL_law_X6_loadByte : GoodIn wsL_law (wsV RL 57 RX6 yX6_loadByte wsX6_loadByte) := goodIn_app (goodIn_of _ (by decide +kernel)) ggL_law_X6_loadByte
set_option maxRecDepth 20000 in
theorem ggL_law_X5_store : GoodIn wsL_law wsX5_store := goodIn_r _ [405, 20, 15, 86, 87, 88, 19, 89, 66, 90, 91, 92, 93, 94, 14, 95, 33, 34, 35, 37, 96, 97, 98, 99, 39, 40, 41, 45, 100, 101, 102, 103, 104, 27, 105, 50, 106, 51, 52, 107, 108, 109, 44, 110, 60, 111, 112, 113, 406, 407, 408, 409, 314, 2, 315, 348, 349, 118, 119, 331, 332, 202, 203, 204, 205, 206, 207, 208, 209, 210, 211, 212, 213, 214, 190, 191, 192, 201, 121, 122, 123, 215, 216, 217, 218, 193, 194, 195, 196, 197, 198, 199, 200, 189, 124, 125, 126, 127, 128, 129, 130, 131, 132, 133, 986, 987, 988, 989, 990, 1009, 1010, 1011, 999, 1000, 1001, 1002, 1003, 1004, 1005, 1006, 1007, 1008, 1018, 1019, 1020, 1021, 1022, 1023] (by decide +kernel) (by decide +kernel)
set_option maxRecDepth 20000 in
theorem gL_law_X5_store : GoodIn wsL_law (wsV RL 58 RX5 yX5_store wsX5_store) := goodIn_app (goodIn_of _ (by decide +kernel)) ggL_law_X5_store
set_option maxRecDepth 20000 in
theorem ggL_law_X6_store : GoodIn wsL_law wsX6_store := goodIn_r _ [413, 320, 321, 5, 322, 141, 142, 143, 138, 139, 140, 144, 145, 146, 147, 148, 149, 150, 151, 78, 414, 415, 416, 417, 358, 359, 360, 361, 337, 338, 339, 156, 157, 158, 382, 383, 384, 385, 246, 247, 248, 159, 160, 161, 162, 249, 250, 251, 252, 239, 240, 241, 242, 243, 244, 245, 235, 236, 237, 238, 163, 164, 165, 166, 167, 168, 169, 170, 991, 992, 993, 994, 995, 996, 997, 998] (by decide +kernel) (by decide +kernel)
set_option maxRecDepth 20000 in
theorem gL_law_X6_store : GoodIn wsL_law (wsV RL 61 RX6 yX6_store wsX6_store) := goodIn_app (goodIn_of _ (by decide +kernel)) ggL_law_X6_store
set_option maxRecDepth 20000 in
theorem ggL_law_X5_storeByte : GoodIn wsL_law wsX5_storeByte := goodIn_r _ [421, 20, 15, 86, 87, 88, 19, 89, 66, 90, 91, 92, 93, 94, 14, 95, 33, 34, 35, 37, 96, 97, 98, 99, 39, 40, 41, 45, 100, 101, 102, 103, 104, 27, 105, 50, 106, 51, 52, 107, 108, 109, 44, 110, 60, 111, 112, 113, 422, 423, 424, 425, 314, 2, 315, 348, 349, 118, 119, 394, 395, 181, 182, 183, 184, 185, 186, 187, 188, 189, 190, 191, 192, 193, 194, 195, 196, 197, 198, 199, 200, 201, 121, 122, 123, 331, 332, 396, 397, 206, 207, 208, 209, 210, 211, 212, 213, 214, 215, 216, 217, 218, 124, 125, 126, 127, 128, 129, 130, 131, 132, 133, 986, 987, 988, 989, 990, 1009, 1010, 1011, 999, 1000, 1001, 1002, 1003, 1004, 1005, 1006, 1007, 1008, 1018, 1019, 1020, 1021, 1022, 1023] (by decide +kernel) (by decide +kernel)
set_option maxRecDepth 20000 in
theorem gL_law_X5_storeByte : GoodIn wsL_law (wsV RL 62 RX5 yX5_storeByte wsX5_storeByte) := goodIn_app (goodIn_of _ (by decide +kernel)) ggL_law_X5_storeByte
set_option maxRecDepth 20000 in
theorem ggL_law_X6_storeByte : GoodIn wsL_law wsX6_storeByte := goodIn_r _ [429, 320, 321, 5, 322, 141, 142, 143, 138, 139, 140, 144, 145, 146, 147, 148, 149, 150, 151, 78, 430, 431, 432, 433, 358, 359, 360, 361, 227, 228, 229, 230, 231, 232, 233, 234, 156, 157, 158, 235, 236, 237, 238, 239, 240, 241, 242, 243, 244, 245, 159, 160, 161, 162, 337, 338, 339, 382, 383, 384, 385, 246, 247, 248, 249, 250, 251, 252, 163, 164, 165, 166, 167, 168, 169, 170, 991, 992, 993, 994, 995, 996, 997, 998] (by decide +kernel) (by decide +kernel)
set_option maxRecDepth 20000 in
theorem gL_law_X6_storeByte : GoodIn wsL_law (wsV RL 65 RX6 yX6_storeByte wsX6_storeByte) := goodIn_app (goodIn_of _ (by decide +kernel)) ggL_law_X6_storeByte
set_option maxRecDepth 20000 in
theorem ggL_law_X5_move : GoodIn wsL_law wsX5_move := goodIn_r _ [437, 20, 15, 86, 87, 88, 19, 89, 66, 90, 91, 92, 93, 94, 14, 95, 33, 34, 35, 37, 96, 97, 98, 99, 39, 40, 41, 45, 100, 101, 102, 103, 104, 27, 105, 50, 106, 51, 52, 107, 108, 109, 44, 110, 60, 111, 112, 113, 438, 439, 440, 441, 314, 2, 315, 348, 349, 331, 332, 206, 207, 208, 209, 210, 211, 212, 213, 214, 190, 191, 192, 201, 121, 122, 123, 124, 125, 126, 127, 128, 129, 130, 131, 132, 133, 986, 987, 988, 989, 990, 1009, 1010, 1011, 999, 1000, 1001, 1002, 1003, 1004, 1005, 1006, 1007, 1008, 1018, 1019, 1020, 1021, 1022, 1023] (by decide +kernel) (by decide +kernel)
set_option maxRecDepth 20000 in
theorem gL_law_X5_move : GoodIn wsL_law (wsV RL 66 RX5 yX5_move wsX5_move) := goodIn_app (goodIn_of _ (by decide +kernel)) ggL_law_X5_move
set_option maxRecDepth 20000 in
theorem ggL_law_X6_move : GoodIn wsL_law wsX6_move := goodIn_r _ [445, 320, 321, 5, 322, 141, 142, 143, 144, 145, 146, 147, 148, 149, 150, 151, 78, 446, 447, 448, 449, 358, 359, 360, 361, 337, 338, 339, 382, 383, 384, 385, 246, 247, 248, 159, 160, 161, 162, 163, 164, 165, 166, 167, 168, 169, 170, 991, 992, 993, 994, 995, 996, 997, 998] (by decide +kernel) (by decide +kernel)
set_option maxRecDepth 20000 in
theorem gL_law_X6_move : GoodIn wsL_law (wsV RL 69 RX6 yX6_move wsX6_move) := goodIn_app (goodIn_of _ (by decide +kernel)) ggL_law_X6_move
set_option maxRecDepth 20000 in
theorem ggL_law_X5_compute : GoodIn wsL_law wsX5_compute := goodIn_r _ [453, 20, 15, 86, 87, 88, 19, 89, 66, 90, 91, 92, 93, 94, 14, 95, 33, 34, 35, 37, 96, 97, 98, 99, 39, 40, 41, 45, 100, 101, 102, 103, 104, 27, 105, 50, 106, 51, 52, 107, 108, 109, 44, 110, 60, 111, 112, 113, 454, 455, 456, 457, 314, 2, 315, 348, 349, 458, 459, 460, 461, 331, 332, 189, 190, 191, 192, 462, 463, 464, 465, 466, 211, 212, 213, 467, 468, 469, 470, 264, 265, 266, 267, 201, 121, 122, 123, 471, 472, 473, 474, 124, 125, 126, 127, 128, 129, 130, 131, 132, 133, 986, 987, 988, 989, 990, 1009, 1010, 1011, 999, 1000, 1001, 1002, 1003, 1004, 1005, 1006, 1007, 1008, 1018, 1019, 1020, 1021, 1022, 1023] (by decide +kernel) (by decide +kernel)
set_option maxRecDepth 20000 in
theorem gL_law_X5_compute : GoodIn wsL_law (wsV RL 70 RX5 yX5_compute wsX5_compute) := goodIn_app (goodIn_of _ (by decide +kernel)) ggL_law_X5_compute
set_option maxRecDepth 20000 in
theorem ggL_law_X6_compute : GoodIn wsL_law wsX6_compute := goodIn_r _ [478, 320, 321, 5, 322, 141, 142, 143, 144, 145, 146, 147, 148, 149, 150, 151, 78, 479, 480, 481, 482, 358, 359, 360, 361, 483, 484, 485, 486, 337, 338, 339, 235, 236, 237, 238, 487, 488, 489, 490, 159, 160, 161, 162, 491, 492, 493, 494, 163, 164, 165, 166, 167, 168, 169, 170, 991, 992, 993, 994, 995, 996, 997, 998] (by decide +kernel) (by decide +kernel)
set_option maxRecDepth 20000 in
theorem gL_law_X6_compute : GoodIn wsL_law (wsV RL 74 RX6 yX6_compute wsX6_compute) := goodIn_app (goodIn_of _ (by decide +kernel)) ggL_law_X6_compute
set_option maxRecDepth 20000 in
theorem ggL_law_X5_loadAt : GoodIn wsL_law wsX5_loadAt := goodIn_r _ [498, 20, 15, 86, 87, 88, 19, 89, 66, 90, 91, 92, 93, 94, 14, 95, 33, 34, 35, 37, 96, 97, 98, 99, 39, 40, 41, 45, 100, 101, 102, 103, 104, 27, 105, 50, 106, 51, 52, 107, 108, 109, 44, 110, 60, 111, 112, 113, 499, 500, 501, 502, 314, 2, 315, 348, 349, 458, 459, 460, 461, 331, 332, 189, 190, 191, 192, 462, 463, 464, 465, 466, 211, 212, 213, 467, 468, 469, 470, 264, 265, 266, 267, 201, 121, 122, 123, 503, 504, 505, 506, 370, 371, 372, 373, 181, 182, 183, 184, 185, 186, 187, 188, 193, 194, 195, 196, 197, 198, 199, 200, 206, 207, 208, 209, 210, 214, 124, 125, 126, 127, 128, 129, 130, 131, 132, 133, 986, 987, 988, 989, 990, 1009, 1010, 1011, 999, 1000, 1001, 1002, 1003, 1004, 1005, 1006, 1007, 1008, 1018, 1019, 1020, 1021, 1022, 1023] (by decide +kernel) (by decide +kernel)
set_option maxRecDepth 20000 in
theorem gL_law_X5_loadAt : GoodIn wsL_law (wsV RL 75 RX5 yX5_loadAt wsX5_loadAt) := goodIn_app (goodIn_of _ (by decide +kernel)) ggL_law_X5_loadAt
set_option maxRecDepth 20000 in
theorem ggL_law_X6_loadAt : GoodIn wsL_law wsX6_loadAt := goodIn_r _ [510, 320, 321, 5, 322, 141, 142, 143, 144, 145, 146, 147, 148, 149, 150, 151, 78, 511, 512, 513, 514, 358, 359, 360, 361, 483, 484, 485, 486, 337, 338, 339, 235, 236, 237, 238, 487, 488, 489, 490, 159, 160, 161, 162, 378, 379, 380, 381, 227, 228, 229, 230, 231, 232, 233, 234, 156, 157, 158, 239, 240, 241, 242, 243, 244, 245, 382, 383, 384, 385, 246, 247, 248, 163, 164, 165, 166, 167, 168, 169, 170, 991, 992, 993, 994, 995, 996, 997, 998] (by decide +kernel) (by decide +kernel)
set_option maxRecDepth 20000 in
theorem gL_law_X6_loadAt : GoodIn wsL_law (wsV RL 78 RX6 yX6_loadAt wsX6_loadAt) := goodIn_app (goodIn_of _ (by decide +kernel)) ggL_law_X6_loadAt
set_option maxRecDepth 20000 in
theorem ggL_law_X5_output : GoodIn wsL_law wsX5_output := goodIn_r _ [518, 20, 15, 86, 87, 88, 19, 89, 66, 90, 91, 92, 93, 94, 14, 95, 33, 34, 35, 37, 96, 97, 98, 99, 39, 40, 41, 45, 100, 101, 102, 103, 104, 27, 105, 50, 106, 51, 52, 107, 108, 109, 44, 110, 60, 111, 112, 113, 519, 520, 521, 522, 314, 2, 315, 348, 349, 458, 459, 460, 461, 331, 332, 189, 190, 191, 192, 462, 463, 464, 465, 466, 211, 212, 213, 467, 468, 469, 470, 264, 265, 266, 267, 201, 121, 122, 123, 124, 125, 126, 127, 128, 129, 130, 131, 132, 133, 986, 987, 988, 989, 990, 1009, 1010, 1011, 999, 1000, 1001, 1002, 1003, 1004, 1005, 1006, 1007, 1008, 1018, 1019, 1020, 1021, 1022, 1023] (by decide +kernel) (by decide +kernel)
set_option maxRecDepth 20000 in
theorem gL_law_X5_output : GoodIn wsL_law (wsV RL 79 RX5 yX5_output wsX5_output) := goodIn_app (goodIn_of _ (by decide +kernel)) ggL_law_X5_output
set_option maxRecDepth 20000 in
theorem ggL_law_X6_output : GoodIn wsL_law wsX6_output := goodIn_r _ [526, 320, 321, 5, 322, 141, 142, 143, 144, 145, 146, 147, 148, 149, 150, 151, 78, 527, 528, 529, 530, 358, 359, 360, 361, 483, 484, 485, 486, 337, 338, 339, 235, 236, 237, 238, 487, 488, 489, 490, 159, 160, 161, 162, 163, 164, 165, 166, 167, 168, 169, 170, 991, 992, 993, 994, 995, 996, 997, 998] (by decide +kernel) (by decide +kernel)
set_option maxRecDepth 20000 in
theorem gL_law_X6_output : GoodIn wsL_law (wsV RL 82 RX6 yX6_output wsX6_output) := goodIn_app (goodIn_of _ (by decide +kernel)) ggL_law_X6_output
set_option maxRecDepth 20000 in
theorem ggL_law_X5_append : GoodIn wsL_law wsX5_append := goodIn_r _ [534, 24, 535, 536, 537, 23, 538, 539, 71, 986, 987, 988, 989, 990, 1012, 1013, 1014, 1015, 1016, 1017] (by decide +kernel) (by decide +kernel)
set_option maxRecDepth 20000 in
theorem gL_law_X5_append : GoodIn wsL_law (wsV RL 83 RX5 yX5_append wsX5_append) := goodIn_app (goodIn_of _ (by decide +kernel)) ggL_law_X5_append
set_option maxRecDepth 20000 in
theorem ggL_law_X6_append : GoodIn wsL_law wsX6_append := goodIn_r _ [543, 544, 79, 141, 142, 5, 143, 991, 992, 993, 994, 995, 996, 997, 998] (by decide +kernel) (by decide +kernel)
set_option maxRecDepth 20000 in
theorem gL_law_X6_append : GoodIn wsL_law (wsV RL 86 RX6 yX6_append wsX6_append) := goodIn_app (goodIn_of _ (by decide +kernel)) ggL_law_X6_append
set_option maxRecDepth 20000 in
theorem ggL_law_X5_clearText : GoodIn wsL_law wsX5_clearText := goodIn_r _ [548, 24, 549, 550, 551, 23, 552, 539, 986, 987, 988, 989, 990, 1012, 1013, 1014, 1015, 1016, 1017] (by decide +kernel) (by decide +kernel)
set_option maxRecDepth 20000 in
theorem gL_law_X5_clearText : GoodIn wsL_law (wsV RL 87 RX5 yX5_clearText wsX5_clearText) := goodIn_app (goodIn_of _ (by decide +kernel)) ggL_law_X5_clearText
set_option maxRecDepth 20000 in
theorem ggL_law_X6_clearText : GoodIn wsL_law wsX6_clearText := goodIn_r _ [556, 544, 991, 992, 993, 994, 995, 996, 997, 998] (by decide +kernel) (by decide +kernel)
set_option maxRecDepth 20000 in
theorem gL_law_X6_clearText : GoodIn wsL_law (wsV RL 91 RX6 yX6_clearText wsX6_clearText) := goodIn_app (goodIn_of _ (by decide +kernel)) ggL_law_X6_clearText
set_option maxRecDepth 20000 in
theorem ggL_law_X5_fault : GoodIn wsL_law wsX5_fault := goodIn_r _ [560, 24, 561, 562, 563, 23, 564, 565, 539, 566, 567, 568, 569, 570, 571, 572, 573, 71, 574, 575, 576, 577, 578, 579, 580, 581, 582, 583, 584, 585, 586, 587, 588, 589, 590, 591, 592, 593, 594, 595, 596, 597, 598, 599, 600, 601, 602, 603, 604, 605, 606, 607, 608, 609, 610, 611, 612, 613, 614, 615, 616, 617, 618, 619, 620, 621, 622, 623, 624, 625, 626, 627, 628, 629, 630, 631, 632, 633, 634, 635, 636, 637, 638, 639, 640, 641, 642, 643, 644, 645, 646, 647, 648, 72, 649, 650, 651, 652, 653, 654, 655, 656, 986, 987, 988, 989, 990, 1012, 1013, 1014, 1015, 1016, 1017] (by decide +kernel) (by decide +kernel)
set_option maxRecDepth 20000 in
theorem gL_law_X5_fault : GoodIn wsL_law (wsV RL 92 RX5 yX5_fault wsX5_fault) := goodIn_app (goodIn_of _ (by decide +kernel)) ggL_law_X5_fault
set_option maxRecDepth 20000 in
theorem ggL_law_X6_fault : GoodIn wsL_law wsX6_fault := goodIn_r _ [660, 661, 662, 663, 664, 5, 665, 544, 666, 667, 668, 669, 670, 272, 671, 672, 673, 674, 79, 675, 676, 677, 678, 80, 141, 142, 143, 679, 680, 681, 682, 683, 684, 685, 686, 991, 992, 993, 994, 995, 996, 997, 998] (by decide +kernel) (by decide +kernel)
set_option maxRecDepth 20000 in
theorem gL_law_X6_fault : GoodIn wsL_law (wsV RL 95 RX6 yX6_fault wsX6_fault) := goodIn_app (goodIn_of _ (by decide +kernel)) ggL_law_X6_fault
set_option maxRecDepth 20000 in
theorem ggL_law_X5_run : GoodIn wsL_law wsX5_run := goodIn_r _ [690, 24, 20, 15, 561, 562, 563, 23, 564, 565, 539, 566, 567, 568, 569, 570, 571, 572, 573, 71, 574, 575, 576, 577, 578, 579, 580, 581, 582, 583, 584, 585, 586, 587, 588, 589, 590, 591, 592, 593, 594, 595, 596, 597, 598, 599, 600, 601, 602, 603, 604, 605, 606, 607, 608, 609, 610, 611, 612, 613, 614, 615, 616, 617, 618, 619, 620, 621, 622, 623, 624, 625, 626, 627, 628, 629, 630, 631, 632, 633, 634, 635, 636, 637, 638, 639, 640, 641, 642, 643, 644, 645, 646, 647, 648, 72, 649, 650, 651, 652, 653, 654, 655, 656, 86, 87, 88, 19, 89, 66, 90, 91, 92, 93, 94, 14, 95, 33, 34, 35, 37, 96, 97, 98, 99, 39, 40, 41, 45, 100, 101, 102, 103, 104, 27, 105, 50, 106, 51, 52, 107, 108, 109, 44, 110, 60, 111, 112, 113, 691, 692, 693, 694, 695, 696, 697, 698, 2, 699, 366, 367, 368, 369, 314, 315, 348, 349, 118, 119, 331, 332, 370, 371, 372, 373, 181, 182, 183, 184, 185, 186, 187, 188, 189, 190, 191, 192, 193, 194, 195, 196, 197, 198, 199, 200, 201, 121, 122, 123, 206, 207, 208, 209, 210, 211, 212, 213, 214, 406, 407, 408, 409, 202, 203, 204, 205, 215, 216, 217, 218, 438, 439, 440, 441, 454, 455, 456, 457, 458, 459, 460, 461, 462, 463, 464, 465, 466, 467, 468, 469, 470, 264, 265, 266, 267, 471, 472, 473, 474, 519, 520, 521, 522, 114, 115, 116, 117, 120, 344, 345, 346, 347, 261, 262, 263, 700, 128, 129, 124, 125, 126, 127, 130, 131, 132, 133, 986, 987, 988, 989, 990, 1012, 1013, 1014, 1015, 1016, 1017, 1009, 1010, 1011, 999, 1000, 1001, 1002, 1003, 1004, 1005, 1006, 1007, 1008, 1018, 1019, 1020, 1021, 1022, 1023] (by decide +kernel) (by decide +kernel)
set_option maxRecDepth 20000 in
theorem gL_law_X5_run : GoodIn wsL_law (wsV RL 96 RX5 yX5_run wsX5_run) := goodIn_app (goodIn_of _ (by decide +kernel)) ggL_law_X5_run
set_option maxRecDepth 20000 in
theorem ggL_law_X6_run : GoodIn wsL_law wsX6_run := goodIn_r _ [704, 662, 663, 664, 5, 665, 661, 544, 666, 667, 668, 669, 670, 272, 671, 672, 673, 674, 79, 675, 676, 677, 678, 80, 141, 142, 143, 679, 680, 681, 682, 683, 684, 685, 686, 705, 706, 707, 708, 144, 145, 146, 147, 148, 149, 150, 151, 78, 709, 710, 711, 712, 713, 714, 715, 716, 378, 379, 380, 381, 358, 359, 360, 361, 227, 228, 229, 230, 231, 232, 233, 234, 156, 157, 158, 235, 236, 237, 238, 239, 240, 241, 242, 243, 244, 245, 159, 160, 161, 162, 337, 338, 339, 382, 383, 384, 385, 246, 247, 248, 414, 415, 416, 417, 249, 250, 251, 252, 446, 447, 448, 449, 479, 480, 481, 482, 483, 484, 485, 486, 487, 488, 489, 490, 491, 492, 493, 494, 527, 528, 529, 530, 152, 153, 154, 155, 354, 355, 356, 357, 168, 169, 170, 163, 164, 165, 166, 167, 991, 992, 993, 994, 995, 996, 997, 998] (by decide +kernel) (by decide +kernel)
set_option maxRecDepth 20000 in
theorem gL_law_X6_run : GoodIn wsL_law (wsV RL 99 RX6 yX6_run wsX6_run) := goodIn_app (goodIn_of _ (by decide +kernel)) ggL_law_X6_run
set_option maxRecDepth 20000 in
theorem ggL_law_X5_undo : GoodIn wsL_law wsX5_undo := goodIn_r _ [720, 20, 15, 721, 722, 723, 19, 724, 91, 66, 90, 92, 93, 94, 14, 95, 33, 34, 35, 37, 96, 97, 98, 99, 39, 40, 41, 45, 100, 101, 102, 103, 104, 27, 105, 50, 106, 51, 52, 107, 108, 109, 44, 110, 60, 111, 112, 113, 986, 987, 988, 989, 990, 1009, 1010, 1011, 999, 1000, 1001, 1002, 1003, 1004, 1005, 1006, 1007, 1008, 1018, 1019, 1020, 1021, 1022, 1023] (by decide +kernel) (by decide +kernel)
set_option maxRecDepth 20000 in
theorem gL_law_X5_undo : GoodIn wsL_law (wsV RL 100 RX5 yX5_undo wsX5_undo) := goodIn_app (goodIn_of _ (by decide +kernel)) ggL_law_X5_undo
set_option maxRecDepth 20000 in
theorem ggL_law_X6_undo : GoodIn wsL_law wsX6_undo := goodIn_r _ [728, 167, 148, 149, 150, 5, 151, 78, 991, 992, 993, 994, 995, 996, 997, 998] (by decide +kernel) (by decide +kernel)
set_option maxRecDepth 20000 in
theorem gL_law_X6_undo : GoodIn wsL_law (wsV RL 103 RX6 yX6_undo wsX6_undo) := goodIn_app (goodIn_of _ (by decide +kernel)) ggL_law_X6_undo
set_option maxRecDepth 20000 in
theorem ggL_law_X5_value : GoodIn wsL_law wsX5_value := goodIn_r _ [732, 15, 733, 118, 2, 119, 986, 987, 988, 989, 990, 999, 1000, 1001, 1002, 1003, 1004, 1005, 1006, 1007, 1008, 1018, 1019, 1020] (by decide +kernel) (by decide +kernel)
set_option maxRecDepth 20000 in
theorem gL_law_X5_value : GoodIn wsL_law (wsV RL 104 RX5 yX5_value wsX5_value) := goodIn_app (goodIn_of _ (by decide +kernel)) ggL_law_X5_value
set_option maxRecDepth 20000 in
theorem ggL_law_X6_value : GoodIn wsL_law wsX6_value := goodIn_r _ [737, 78, 138, 139, 5, 140, 141, 142, 143, 156, 157, 158, 991, 992, 993, 994, 995, 996, 997, 998] (by decide +kernel) (by decide +kernel)
set_option maxRecDepth 20000 in
theorem gL_law_X6_value : GoodIn wsL_law (wsV RL 107 RX6 yX6_value wsX6_value) := goodIn_app (goodIn_of _ (by decide +kernel)) ggL_law_X6_value
set_option maxRecDepth 20000 in
theorem ggL_law_X5_origin : GoodIn wsL_law wsX5_origin := goodIn_r _ [741, 15, 733, 118, 2, 119, 986, 987, 988, 989, 990, 999, 1000, 1001, 1002, 1003, 1004, 1005, 1006, 1007, 1008, 1018, 1019, 1020] (by decide +kernel) (by decide +kernel)
set_option maxRecDepth 20000 in
theorem gL_law_X5_origin : GoodIn wsL_law (wsV RL 108 RX5 yX5_origin wsX5_origin) := goodIn_app (goodIn_of _ (by decide +kernel)) ggL_law_X5_origin
set_option maxRecDepth 20000 in
theorem ggL_law_X6_origin : GoodIn wsL_law wsX6_origin := goodIn_r _ [745, 138, 139, 5, 140, 141, 142, 143, 156, 157, 158, 746, 747, 748, 749, 78, 235, 236, 237, 238, 991, 992, 993, 994, 995, 996, 997, 998] (by decide +kernel) (by decide +kernel)
set_option maxRecDepth 20000 in
theorem gL_law_X6_origin : GoodIn wsL_law (wsV RL 111 RX6 yX6_origin wsX6_origin) := goodIn_app (goodIn_of _ (by decide +kernel)) ggL_law_X6_origin
set_option maxRecDepth 20000 in
theorem ggL_law_X5_hops : GoodIn wsL_law wsX5_hops := goodIn_r _ [753, 15, 733, 118, 2, 119, 986, 987, 988, 989, 990, 999, 1000, 1001, 1002, 1003, 1004, 1005, 1006, 1007, 1008, 1018, 1019, 1020] (by decide +kernel) (by decide +kernel)
set_option maxRecDepth 20000 in
theorem gL_law_X5_hops : GoodIn wsL_law (wsV RL 112 RX5 yX5_hops wsX5_hops) := goodIn_app (goodIn_of _ (by decide +kernel)) ggL_law_X5_hops
set_option maxRecDepth 20000 in
theorem ggL_law_X6_hops : GoodIn wsL_law wsX6_hops := goodIn_r _ [757, 138, 139, 5, 140, 141, 142, 143, 156, 157, 158, 746, 747, 748, 749, 78, 235, 236, 237, 238, 991, 992, 993, 994, 995, 996, 997, 998] (by decide +kernel) (by decide +kernel)
set_option maxRecDepth 20000 in
theorem gL_law_X6_hops : GoodIn wsL_law (wsV RL 115 RX6 yX6_hops wsX6_hops) := goodIn_app (goodIn_of _ (by decide +kernel)) ggL_law_X6_hops
set_option maxRecDepth 20000 in
theorem ggL_law_X5_mirrorValue : GoodIn wsL_law wsX5_mirrorValue := goodIn_r _ [761, 15, 733, 118, 2, 119, 194, 14, 195, 196, 37, 986, 987, 988, 989, 990, 999, 1000, 1001, 1002, 1003, 1004, 1005, 1006, 1007, 1008, 1018, 1019, 1020] (by decide +kernel) (by decide +kernel)
set_option maxRecDepth 20000 in
theorem gL_law_X5_mirrorValue : GoodIn wsL_law (wsV RL 116 RX5 yX5_mirrorValue wsX5_mirrorValue) := goodIn_app (goodIn_of _ (by decide +kernel)) ggL_law_X5_mirrorValue
set_option maxRecDepth 20000 in
theorem ggL_law_X6_mirrorValue : GoodIn wsL_law wsX6_mirrorValue := goodIn_r _ [765, 78, 138, 139, 5, 140, 141, 142, 143, 239, 240, 241, 242, 243, 244, 245, 991, 992, 993, 994, 995, 996, 997, 998] (by decide +kernel) (by decide +kernel)
set_option maxRecDepth 20000 in
theorem gL_law_X6_mirrorValue : GoodIn wsL_law (wsV RL 119 RX6 yX6_mirrorValue wsX6_mirrorValue) := goodIn_app (goodIn_of _ (by decide +kernel)) ggL_law_X6_mirrorValue
set_option maxRecDepth 20000 in
theorem ggL_law_X5_mirrorOrigin : GoodIn wsL_law wsX5_mirrorOrigin := goodIn_r _ [769, 15, 733, 118, 2, 119, 194, 14, 195, 196, 37, 986, 987, 988, 989, 990, 999, 1000, 1001, 1002, 1003, 1004, 1005, 1006, 1007, 1008, 1018, 1019, 1020] (by decide +kernel) (by decide +kernel)
set_option maxRecDepth 20000 in
theorem gL_law_X5_mirrorOrigin : GoodIn wsL_law (wsV RL 120 RX5 yX5_mirrorOrigin wsX5_mirrorOrigin) := goodIn_app (goodIn_of _ (by decide +kernel)) ggL_law_X5_mirrorOrigin
set_option maxRecDepth 20000 in
theorem ggL_law_X6_mirrorOrigin : GoodIn wsL_law wsX6_mirrorOrigin := goodIn_r _ [773, 138, 139, 5, 140, 141, 142, 143, 239, 240, 241, 242, 78, 243, 244, 245, 746, 747, 748, 749, 235, 236, 237, 238, 991, 992, 993, 994, 995, 996, 997, 998] (by decide +kernel) (by decide +kernel)
set_option maxRecDepth 20000 in
theorem gL_law_X6_mirrorOrigin : GoodIn wsL_law (wsV RL 123 RX6 yX6_mirrorOrigin wsX6_mirrorOrigin) := goodIn_app (goodIn_of _ (by decide +kernel)) ggL_law_X6_mirrorOrigin
set_option maxRecDepth 20000 in
theorem ggL_law_X5_register : GoodIn wsL_law wsX5_register := goodIn_r _ [777, 15, 778, 314, 2, 315, 779, 348, 349, 780, 331, 332, 986, 987, 988, 989, 990, 999, 1000, 1001, 1002, 1003, 1004, 1005, 1006, 1007, 1008, 1018, 1019, 1020] (by decide +kernel) (by decide +kernel)
set_option maxRecDepth 20000 in
theorem gL_law_X5_register : GoodIn wsL_law (wsV RL 124 RX5 yX5_register wsX5_register) := goodIn_app (goodIn_of _ (by decide +kernel)) ggL_law_X5_register
set_option maxRecDepth 20000 in
theorem ggL_law_X6_register : GoodIn wsL_law wsX6_register := goodIn_r _ [784, 78, 320, 321, 5, 322, 141, 142, 143, 337, 338, 339, 991, 992, 993, 994, 995, 996, 997, 998] (by decide +kernel) (by decide +kernel)
set_option maxRecDepth 20000 in
theorem gL_law_X6_register : GoodIn wsL_law (wsV RL 127 RX6 yX6_register wsX6_register) := goodIn_app (goodIn_of _ (by decide +kernel)) ggL_law_X6_register
set_option maxRecDepth 20000 in
theorem ggL_law_X5_registerOrigin : GoodIn wsL_law wsX5_registerOrigin := goodIn_r _ [788, 15, 778, 314, 2, 315, 779, 348, 349, 780, 331, 332, 986, 987, 988, 989, 990, 999, 1000, 1001, 1002, 1003, 1004, 1005, 1006, 1007, 1008, 1018, 1019, 1020] (by decide +kernel) (by decide +kernel)
set_option maxRecDepth 20000 in
theorem gL_law_X5_registerOrigin : GoodIn wsL_law (wsV RL 128 RX5 yX5_registerOrigin wsX5_registerOrigin) := goodIn_app (goodIn_of _ (by decide +kernel)) ggL_law_X5_registerOrigin
set_option maxRecDepth 20000 in
theorem ggL_law_X6_registerOrigin : GoodIn wsL_law wsX6_registerOrigin := goodIn_r _ [792, 320, 321, 5, 322, 141, 142, 143, 337, 338, 339, 746, 747, 748, 749, 78, 235, 236, 237, 238, 991, 992, 993, 994, 995, 996, 997, 998] (by decide +kernel) (by decide +kernel)
set_option maxRecDepth 20000 in
theorem gL_law_X6_registerOrigin : GoodIn wsL_law (wsV RL 131 RX6 yX6_registerOrigin wsX6_registerOrigin) := goodIn_app (goodIn_of _ (by decide +kernel)) ggL_law_X6_registerOrigin
set_option maxRecDepth 20000 in
theorem ggL_law_X5_registerHops : GoodIn wsL_law wsX5_registerHops := goodIn_r _ [796, 15, 778, 314, 2, 315, 779, 348, 349, 780, 331, 332, 986, 987, 988, 989, 990, 999, 1000, 1001, 1002, 1003, 1004, 1005, 1006, 1007, 1008, 1018, 1019, 1020] (by decide +kernel) (by decide +kernel)
set_option maxRecDepth 20000 in
theorem gL_law_X5_registerHops : GoodIn wsL_law (wsV RL 132 RX5 yX5_registerHops wsX5_registerHops) := goodIn_app (goodIn_of _ (by decide +kernel)) ggL_law_X5_registerHops
set_option maxRecDepth 20000 in
theorem ggL_law_X6_registerHops : GoodIn wsL_law wsX6_registerHops := goodIn_r _ [800, 320, 321, 5, 322, 141, 142, 143, 337, 338, 339, 746, 747, 748, 749, 78, 235, 236, 237, 238, 991, 992, 993, 994, 995, 996, 997, 998] (by decide +kernel) (by decide +kernel)
set_option maxRecDepth 20000 in
theorem gL_law_X6_registerHops : GoodIn wsL_law (wsV RL 135 RX6 yX6_registerHops wsX6_registerHops) := goodIn_app (goodIn_of _ (by decide +kernel)) ggL_law_X6_registerHops
set_option maxRecDepth 20000 in
theorem ggL_law_X5_mode : GoodIn wsL_law wsX5_mode := goodIn_r _ [804, 15, 778, 314, 2, 315, 986, 987, 988, 989, 990, 999, 1000, 1001, 1002, 1003, 1004, 1005, 1006, 1007, 1008] (by decide +kernel) (by decide +kernel)
set_option maxRecDepth 20000 in
theorem gL_law_X5_mode : GoodIn wsL_law (wsV RL 136 RX5 yX5_mode wsX5_mode) := goodIn_app (goodIn_of _ (by decide +kernel)) ggL_law_X5_mode
set_option maxRecDepth 20000 in
theorem ggL_law_X6_mode : GoodIn wsL_law wsX6_mode := goodIn_r _ [808, 78, 320, 321, 5, 322, 141, 142, 143, 991, 992, 993, 994, 995, 996, 997, 998] (by decide +kernel) (by decide +kernel)
set_option maxRecDepth 20000 in
theorem gL_law_X6_mode : GoodIn wsL_law (wsV RL 139 RX6 yX6_mode wsX6_mode) := goodIn_app (goodIn_of _ (by decide +kernel)) ggL_law_X6_mode
set_option maxRecDepth 20000 in
theorem ggL_law_X5_stopped : GoodIn wsL_law wsX5_stopped := goodIn_r _ [812, 15, 778, 314, 2, 315, 986, 987, 988, 989, 990, 999, 1000, 1001, 1002, 1003, 1004, 1005, 1006, 1007, 1008] (by decide +kernel) (by decide +kernel)
set_option maxRecDepth 20000 in
theorem gL_law_X5_stopped : GoodIn wsL_law (wsV RL 140 RX5 yX5_stopped wsX5_stopped) := goodIn_app (goodIn_of _ (by decide +kernel)) ggL_law_X5_stopped
set_option maxRecDepth 20000 in
theorem ggL_law_X6_stopped : GoodIn wsL_law wsX6_stopped := goodIn_r _ [816, 78, 320, 321, 5, 322, 141, 142, 143, 991, 992, 993, 994, 995, 996, 997, 998] (by decide +kernel) (by decide +kernel)
set_option maxRecDepth 20000 in
theorem gL_law_X6_stopped : GoodIn wsL_law (wsV RL 143 RX6 yX6_stopped wsX6_stopped) := goodIn_app (goodIn_of _ (by decide +kernel)) ggL_law_X6_stopped
set_option maxRecDepth 20000 in
theorem ggL_law_X5_injections : GoodIn wsL_law wsX5_injections := goodIn_r _ [820, 15, 986, 987, 988, 989, 990, 999, 1000, 1001, 1002, 1003, 1004, 1005, 1006, 1007, 1008] (by decide +kernel) (by decide +kernel)
set_option maxRecDepth 20000 in
theorem gL_law_X5_injections : GoodIn wsL_law (wsV RL 144 RX5 yX5_injections wsX5_injections) := goodIn_app (goodIn_of _ (by decide +kernel)) ggL_law_X5_injections
set_option maxRecDepth 20000 in
theorem ggL_law_X6_injections : GoodIn wsL_law wsX6_injections := goodIn_r _ [824, 78, 991, 992, 993, 994, 995, 996, 997, 998] (by decide +kernel) (by decide +kernel)
set_option maxRecDepth 20000 in
theorem gL_law_X6_injections : GoodIn wsL_law (wsV RL 147 RX6 yX6_injections wsX6_injections) := goodIn_app (goodIn_of _ (by decide +kernel)) ggL_law_X6_injections
set_option maxRecDepth 20000 in
theorem ggL_law_X5_source : GoodIn wsL_law wsX5_source := goodIn_r _ [828, 15, 829, 14, 830, 831, 100, 986, 987, 988, 989, 990, 999, 1000, 1001, 1002, 1003, 1004, 1005, 1006, 1007, 1008] (by decide +kernel) (by decide +kernel)
set_option maxRecDepth 20000 in
theorem gL_law_X5_source : GoodIn wsL_law (wsV RL 148 RX5 yX5_source wsX5_source) := goodIn_app (goodIn_of _ (by decide +kernel)) ggL_law_X5_source
set_option maxRecDepth 20000 in
theorem ggL_law_X6_source : GoodIn wsL_law wsX6_source := goodIn_r _ [835, 78, 836, 837, 838, 5, 839, 141, 142, 143, 991, 992, 993, 994, 995, 996, 997, 998] (by decide +kernel) (by decide +kernel)
set_option maxRecDepth 20000 in
theorem gL_law_X6_source : GoodIn wsL_law (wsV RL 151 RX6 yX6_source wsX6_source) := goodIn_app (goodIn_of _ (by decide +kernel)) ggL_law_X6_source
set_option maxRecDepth 20000 in
theorem ggL_law_X5_faults : GoodIn wsL_law wsX5_faults := goodIn_r _ [843, 15, 986, 987, 988, 989, 990, 999, 1000, 1001, 1002, 1003, 1004, 1005, 1006, 1007, 1008, 1021, 1022, 1023] (by decide +kernel) (by decide +kernel)
set_option maxRecDepth 20000 in
theorem gL_law_X5_faults : GoodIn wsL_law (wsV RL 152 RX5 yX5_faults wsX5_faults) := goodIn_app (goodIn_of _ (by decide +kernel)) ggL_law_X5_faults
set_option maxRecDepth 20000 in
theorem ggL_law_X6_faults : GoodIn wsL_law wsX6_faults := goodIn_r _ [847, 78, 991, 992, 993, 994, 995, 996, 997, 998] (by decide +kernel) (by decide +kernel)
set_option maxRecDepth 20000 in
theorem gL_law_X6_faults : GoodIn wsL_law (wsV RL 155 RX6 yX6_faults wsX6_faults) := goodIn_app (goodIn_of _ (by decide +kernel)) ggL_law_X6_faults
set_option maxRecDepth 20000 in
theorem ggL_law_X5_log : GoodIn wsL_law wsX5_log := goodIn_r _ [851, 15, 986, 987, 988, 989, 990, 999, 1000, 1001, 1002, 1003, 1004, 1005, 1006, 1007, 1008, 1021, 1022, 1023] (by decide +kernel) (by decide +kernel)
set_option maxRecDepth 20000 in
theorem gL_law_X5_log : GoodIn wsL_law (wsV RL 156 RX5 yX5_log wsX5_log) := goodIn_app (goodIn_of _ (by decide +kernel)) ggL_law_X5_log
set_option maxRecDepth 20000 in
theorem ggL_law_X6_log : GoodIn wsL_law wsX6_log := goodIn_r _ [855, 78, 141, 142, 5, 143, 991, 992, 993, 994, 995, 996, 997, 998] (by decide +kernel) (by decide +kernel)
set_option maxRecDepth 20000 in
theorem gL_law_X6_log : GoodIn wsL_law (wsV RL 159 RX6 yX6_log wsX6_log) := goodIn_app (goodIn_of _ (by decide +kernel)) ggL_law_X6_log
set_option maxRecDepth 20000 in
theorem ggL_law_X5_healed : GoodIn wsL_law wsX5_healed := goodIn_r _ [859, 15, 986, 987, 988, 989, 990, 999, 1000, 1001, 1002, 1003, 1004, 1005, 1006, 1007, 1008] (by decide +kernel) (by decide +kernel)
set_option maxRecDepth 20000 in
theorem gL_law_X5_healed : GoodIn wsL_law (wsV RL 160 RX5 yX5_healed wsX5_healed) := goodIn_app (goodIn_of _ (by decide +kernel)) ggL_law_X5_healed
set_option maxRecDepth 20000 in
theorem ggL_law_X6_healed : GoodIn wsL_law wsX6_healed := goodIn_r _ [863, 78, 991, 992, 993, 994, 995, 996, 997, 998] (by decide +kernel) (by decide +kernel)
set_option maxRecDepth 20000 in
theorem gL_law_X6_healed : GoodIn wsL_law (wsV RL 163 RX6 yX6_healed wsX6_healed) := goodIn_app (goodIn_of _ (by decide +kernel)) ggL_law_X6_healed
set_option maxRecDepth 20000 in
theorem ggL_law_X5_poisoned : GoodIn wsL_law wsX5_poisoned := goodIn_r _ [867, 15, 868, 281, 2, 282, 869, 220, 221, 27, 222, 214, 190, 191, 192, 51, 986, 987, 988, 989, 990, 999, 1000, 1001, 1002, 1003, 1004, 1005, 1006, 1007, 1008, 1018, 1019, 1020] (by decide +kernel) (by decide +kernel)
set_option maxRecDepth 20000 in
theorem gL_law_X5_poisoned : GoodIn wsL_law (wsV RL 164 RX5 yX5_poisoned wsX5_poisoned) := goodIn_app (goodIn_of _ (by decide +kernel)) ggL_law_X5_poisoned
set_option maxRecDepth 20000 in
theorem ggL_law_X6_poisoned : GoodIn wsL_law wsX6_poisoned := goodIn_r _ [873, 291, 292, 5, 293, 141, 142, 143, 874, 875, 876, 877, 156, 157, 158, 235, 236, 237, 238, 78, 991, 992, 993, 994, 995, 996, 997, 998] (by decide +kernel) (by decide +kernel)
set_option maxRecDepth 20000 in
theorem gL_law_X6_poisoned : GoodIn wsL_law (wsV RL 167 RX6 yX6_poisoned wsX6_poisoned) := goodIn_app (goodIn_of _ (by decide +kernel)) ggL_law_X6_poisoned
set_option maxRecDepth 20000 in
theorem ggL_law_X5_carriers : GoodIn wsL_law wsX5_carriers := goodIn_r _ [881, 15, 829, 14, 830, 831, 100, 882, 883, 884, 33, 35, 885, 886, 887, 27, 888, 51, 986, 987, 988, 989, 990, 999, 1000, 1001, 1002, 1003, 1004, 1005, 1006, 1007, 1008, 1018, 1019, 1020] (by decide +kernel) (by decide +kernel)
set_option maxRecDepth 20000 in
theorem gL_law_X5_carriers : GoodIn wsL_law (wsV RL 168 RX5 yX5_carriers wsX5_carriers) := goodIn_app (goodIn_of _ (by decide +kernel)) ggL_law_X5_carriers
set_option maxRecDepth 20000 in
theorem ggL_law_X6_carriers : GoodIn wsL_law wsX6_carriers := goodIn_r _ [892, 836, 837, 838, 5, 839, 78, 141, 142, 143, 893, 894, 895, 896, 897, 898, 899, 900, 991, 992, 993, 994, 995, 996, 997, 998] (by decide +kernel) (by decide +kernel)
set_option maxRecDepth 20000 in
theorem gL_law_X6_carriers : GoodIn wsL_law (wsV RL 171 RX6 yX6_carriers wsX6_carriers) := goodIn_app (goodIn_of _ (by decide +kernel)) ggL_law_X6_carriers
set_option maxRecDepth 20000 in
theorem ggL_law_X5_farthest : GoodIn wsL_law wsX5_farthest := goodIn_r _ [904, 15, 905, 906, 212, 907, 829, 14, 830, 831, 100, 908, 909, 910, 27, 911, 51, 52, 912, 986, 987, 988, 989, 990, 999, 1000, 1001, 1002, 1003, 1004, 1005, 1006, 1007, 1008, 1018, 1019, 1020] (by decide +kernel) (by decide +kernel)
set_option maxRecDepth 20000 in
theorem gL_law_X5_farthest : GoodIn wsL_law (wsV RL 172 RX5 yX5_farthest wsX5_farthest) := goodIn_app (goodIn_of _ (by decide +kernel)) ggL_law_X5_farthest
set_option maxRecDepth 20000 in
theorem ggL_law_X6_farthest : GoodIn wsL_law wsX6_farthest := goodIn_r _ [916, 78, 836, 837, 838, 5, 839, 141, 142, 143, 897, 898, 899, 900, 991, 992, 993, 994, 995, 996, 997, 998] (by decide +kernel) (by decide +kernel)
set_option maxRecDepth 20000 in
theorem gL_law_X6_farthest : GoodIn wsL_law (wsV RL 175 RX6 yX6_farthest wsX6_farthest) := goodIn_app (goodIn_of _ (by decide +kernel)) ggL_law_X6_farthest
set_option maxRecDepth 20000 in
theorem ggL_law_X5_widest : GoodIn wsL_law wsX5_widest := goodIn_r _ [920, 15, 882, 14, 883, 884, 33, 35, 885, 886, 887, 27, 888, 51, 986, 987, 988, 989, 990, 999, 1000, 1001, 1002, 1003, 1004, 1005, 1006, 1007, 1008, 1018, 1019, 1020] (by decide +kernel) (by decide +kernel)
set_option maxRecDepth 20000 in
theorem gL_law_X5_widest : GoodIn wsL_law (wsV RL 176 RX5 yX5_widest wsX5_widest) := goodIn_app (goodIn_of _ (by decide +kernel)) ggL_law_X5_widest
set_option maxRecDepth 20000 in
theorem ggL_law_X6_widest : GoodIn wsL_law wsX6_widest := goodIn_r _ [924, 78, 893, 894, 895, 5, 896, 897, 898, 899, 900, 991, 992, 993, 994, 995, 996, 997, 998] (by decide +kernel) (by decide +kernel)
set_option maxRecDepth 20000 in
theorem gL_law_X6_widest : GoodIn wsL_law (wsV RL 179 RX6 yX6_widest wsX6_widest) := goodIn_app (goodIn_of _ (by decide +kernel)) ggL_law_X6_widest
set_option maxRecDepth 20000 in
theorem ggL_law_X5_atRisk : GoodIn wsL_law wsX5_atRisk := goodIn_r _ [928, 15, 780, 331, 2, 332, 869, 220, 221, 27, 222, 214, 190, 191, 192, 51, 986, 987, 988, 989, 990, 999, 1000, 1001, 1002, 1003, 1004, 1005, 1006, 1007, 1008, 1018, 1019, 1020] (by decide +kernel) (by decide +kernel)
set_option maxRecDepth 20000 in
theorem gL_law_X5_atRisk : GoodIn wsL_law (wsV RL 180 RX5 yX5_atRisk wsX5_atRisk) := goodIn_app (goodIn_of _ (by decide +kernel)) ggL_law_X5_atRisk
set_option maxRecDepth 20000 in
theorem ggL_law_X6_atRisk : GoodIn wsL_law wsX6_atRisk := goodIn_r _ [932, 78, 337, 338, 5, 339, 235, 236, 237, 238, 991, 992, 993, 994, 995, 996, 997, 998] (by decide +kernel) (by decide +kernel)
set_option maxRecDepth 20000 in
theorem gL_law_X6_atRisk : GoodIn wsL_law (wsV RL 183 RX6 yX6_atRisk wsX6_atRisk) := goodIn_app (goodIn_of _ (by decide +kernel)) ggL_law_X6_atRisk
set_option maxRecDepth 20000 in
theorem ggL_law_X5_poisonShare : GoodIn wsL_law wsX5_poisonShare := goodIn_r _ [936, 15, 937, 869, 220, 221, 27, 222, 214, 190, 191, 192, 51, 986, 987, 988, 989, 990, 999, 1000, 1001, 1002, 1003, 1004, 1005, 1006, 1007, 1008, 1018, 1019, 1020] (by decide +kernel) (by decide +kernel)
set_option maxRecDepth 20000 in
theorem gL_law_X5_poisonShare : GoodIn wsL_law (wsV RL 184 RX5 yX5_poisonShare wsX5_poisonShare) := goodIn_app (goodIn_of _ (by decide +kernel)) ggL_law_X5_poisonShare
set_option maxRecDepth 20000 in
theorem ggL_law_X6_poisonShare : GoodIn wsL_law wsX6_poisonShare := goodIn_r _ [941, 942, 874, 875, 876, 5, 877, 156, 157, 158, 235, 236, 237, 238, 78, 991, 992, 993, 994, 995, 996, 997, 998] (by decide +kernel) (by decide +kernel)
set_option maxRecDepth 20000 in
theorem gL_law_X6_poisonShare : GoodIn wsL_law (wsV RL 188 RX6 yX6_poisonShare wsX6_poisonShare) := goodIn_app (goodIn_of _ (by decide +kernel)) ggL_law_X6_poisonShare
set_option maxRecDepth 20000 in
theorem ggL_law_X5_poisonedIfScrubbed : GoodIn wsL_law wsX5_poisonedIfScrubbed := goodIn_r _ [946, 15, 869, 220, 221, 27, 222, 214, 190, 191, 192, 51, 947, 14, 948, 949, 185, 186, 187, 188, 33, 34, 189, 193, 194, 195, 196, 37, 986, 987, 988, 989, 990, 999, 1000, 1001, 1002, 1003, 1004, 1005, 1006, 1007, 1008, 1018, 1019, 1020] (by decide +kernel) (by decide +kernel)
set_option maxRecDepth 20000 in
theorem gL_law_X5_poisonedIfScrubbed : GoodIn wsL_law (wsV RL 189 RX5 yX5_poisonedIfScrubbed wsX5_poisonedIfScrubbed) := goodIn_app (goodIn_of _ (by decide +kernel)) ggL_law_X5_poisonedIfScrubbed
set_option maxRecDepth 20000 in
theorem ggL_law_X6_poisonedIfScrubbed : GoodIn wsL_law wsX6_poisonedIfScrubbed := goodIn_r _ [953, 874, 875, 876, 5, 877, 156, 157, 158, 235, 236, 237, 238, 78, 954, 955, 956, 957, 231, 232, 233, 234, 239, 240, 241, 242, 243, 244, 245, 991, 992, 993, 994, 995, 996, 997, 998] (by decide +kernel) (by decide +kernel)
set_option maxRecDepth 20000 in
theorem gL_law_X6_poisonedIfScrubbed : GoodIn wsL_law (wsV RL 192 RX6 yX6_poisonedIfScrubbed wsX6_poisonedIfScrubbed) := goodIn_app (goodIn_of _ (by decide +kernel)) ggL_law_X6_poisonedIfScrubbed
set_option maxRecDepth 20000 in
theorem ggL_law_X5_bestScrub : GoodIn wsL_law wsX5_bestScrub := goodIn_r _ [961, 15, 947, 14, 948, 949, 185, 186, 187, 188, 33, 34, 189, 190, 191, 27, 192, 51, 193, 194, 195, 196, 37, 986, 987, 988, 989, 990, 999, 1000, 1001, 1002, 1003, 1004, 1005, 1006, 1007, 1008, 1018, 1019, 1020] (by decide +kernel) (by decide +kernel)
set_option maxRecDepth 20000 in
theorem gL_law_X5_bestScrub : GoodIn wsL_law (wsV RL 193 RX5 yX5_bestScrub wsX5_bestScrub) := goodIn_app (goodIn_of _ (by decide +kernel)) ggL_law_X5_bestScrub
set_option maxRecDepth 20000 in
theorem ggL_law_X6_bestScrub : GoodIn wsL_law wsX6_bestScrub := goodIn_r _ [965, 954, 955, 956, 5, 957, 231, 232, 233, 234, 156, 157, 158, 235, 236, 237, 238, 78, 239, 240, 241, 242, 243, 244, 245, 991, 992, 993, 994, 995, 996, 997, 998] (by decide +kernel) (by decide +kernel)
set_option maxRecDepth 20000 in
theorem gL_law_X6_bestScrub : GoodIn wsL_law (wsV RL 196 RX6 yX6_bestScrub wsX6_bestScrub) := goodIn_app (goodIn_of _ (by decide +kernel)) ggL_law_X6_bestScrub
set_option maxRecDepth 20000 in
theorem ggL_law_X5_carriersWithout : GoodIn wsL_law wsX5_carriersWithout := goodIn_r _ [969, 15, 829, 14, 830, 831, 100, 733, 118, 2, 119, 882, 883, 884, 33, 35, 885, 886, 887, 27, 888, 51, 986, 987, 988, 989, 990, 999, 1000, 1001, 1002, 1003, 1004, 1005, 1006, 1007, 1008, 1018, 1019, 1020] (by decide +kernel) (by decide +kernel)
set_option maxRecDepth 20000 in
theorem gL_law_X5_carriersWithout : GoodIn wsL_law (wsV RL 197 RX5 yX5_carriersWithout wsX5_carriersWithout) := goodIn_app (goodIn_of _ (by decide +kernel)) ggL_law_X5_carriersWithout
set_option maxRecDepth 20000 in
theorem ggL_law_X6_carriersWithout : GoodIn wsL_law wsX6_carriersWithout := goodIn_r _ [973, 78, 836, 837, 838, 5, 839, 141, 142, 143, 138, 139, 140, 893, 894, 895, 896, 897, 898, 899, 900, 156, 157, 158, 991, 992, 993, 994, 995, 996, 997, 998] (by decide +kernel) (by decide +kernel)
set_option maxRecDepth 20000 in
theorem gL_law_X6_carriersWithout : GoodIn wsL_law (wsV RL 200 RX6 yX6_carriersWithout wsX6_carriersWithout) := goodIn_app (goodIn_of _ (by decide +kernel)) ggL_law_X6_carriersWithout
set_option maxRecDepth 20000 in
theorem ggL_law_X5_stopsAt : GoodIn wsL_law wsX5_stopsAt := goodIn_r _ [977, 24, 16, 15, 561, 562, 563, 23, 564, 565, 539, 566, 567, 568, 569, 570, 571, 572, 573, 71, 574, 575, 576, 577, 578, 579, 580, 581, 582, 583, 584, 585, 586, 587, 588, 589, 590, 591, 592, 593, 594, 595, 596, 597, 598, 599, 600, 601, 602, 603, 604, 605, 606, 607, 608, 609, 610, 611, 612, 613, 614, 615, 616, 617, 618, 619, 620, 621, 622, 623, 624, 625, 626, 627, 628, 629, 630, 631, 632, 633, 634, 635, 636, 637, 638, 639, 640, 641, 642, 643, 644, 645, 646, 647, 648, 72, 649, 650, 651, 652, 653, 654, 655, 656, 978, 93, 94, 14, 95, 33, 34, 35, 37, 96, 97, 98, 99, 39, 40, 41, 45, 100, 101, 102, 103, 104, 27, 105, 50, 106, 51, 52, 107, 108, 109, 44, 110, 60, 111, 112, 113, 979, 980, 981, 691, 692, 693, 694, 695, 696, 697, 698, 2, 699, 366, 367, 368, 369, 314, 315, 348, 349, 118, 119, 331, 332, 370, 371, 372, 373, 181, 182, 183, 184, 185, 186, 187, 188, 189, 190, 191, 192, 193, 194, 195, 196, 197, 198, 199, 200, 201, 121, 122, 123, 206, 207, 208, 209, 210, 211, 212, 213, 214, 406, 407, 408, 409, 202, 203, 204, 205, 215, 216, 217, 218, 438, 439, 440, 441, 454, 455, 456, 457, 458, 459, 460, 461, 462, 463, 464, 465, 466, 467, 468, 469, 470, 264, 265, 266, 267, 471, 472, 473, 474, 519, 520, 521, 522, 114, 115, 116, 117, 120, 344, 345, 346, 347, 261, 262, 263, 700, 128, 129, 986, 987, 988, 989, 990, 1012, 1013, 1014, 1015, 1016, 1017, 999, 1000, 1001, 1002, 1003, 1004, 1005, 1006, 1007, 1008, 1018, 1019, 1020, 1021, 1022, 1023] (by decide +kernel) (by decide +kernel)
set_option maxRecDepth 20000 in
theorem gL_law_X5_stopsAt : GoodIn wsL_law (wsV RL 201 RX5 yX5_stopsAt wsX5_stopsAt) := goodIn_app (goodIn_of _ (by decide +kernel)) ggL_law_X5_stopsAt
set_option maxRecDepth 20000 in
theorem ggL_law_X6_stopsAt : GoodIn wsL_law wsX6_stopsAt := goodIn_r _ [985, 662, 663, 664, 5, 665, 661, 544, 666, 667, 668, 669, 670, 272, 671, 672, 673, 674, 79, 675, 676, 677, 678, 80, 141, 142, 143, 679, 680, 681, 682, 683, 684, 685, 686, 705, 706, 707, 708, 144, 145, 146, 147, 148, 149, 150, 151, 78, 709, 710, 711, 712, 713, 714, 715, 716, 378, 379, 380, 381, 358, 359, 360, 361, 227, 228, 229, 230, 231, 232, 233, 234, 156, 157, 158, 235, 236, 237, 238, 239, 240, 241, 242, 243, 244, 245, 159, 160, 161, 162, 337, 338, 339, 382, 383, 384, 385, 246, 247, 248, 414, 415, 416, 417, 249, 250, 251, 252, 446, 447, 448, 449, 479, 480, 481, 482, 483, 484, 485, 486, 487, 488, 489, 490, 491, 492, 493, 494, 527, 528, 529, 530, 152, 153, 154, 155, 354, 355, 356, 357, 168, 169, 170, 991, 992, 993, 994, 995, 996, 997, 998] (by decide +kernel) (by decide +kernel)
set_option maxRecDepth 20000 in
theorem gL_law_X6_stopsAt : GoodIn wsL_law (wsV RL 204 RX6 yX6_stopsAt wsX6_stopsAt) := goodIn_app (goodIn_of _ (by decide +kernel)) ggL_law_X6_stopsAt
theorem dL_law_0 : decode cL_law 0 = .ok (.new 7, 3) := by decide +kernel
theorem dL_law_3 : decode cL_law 3 = .ok (.dup, 1) := by decide +kernel
theorem dL_law_4 : decode cL_law 4 = .ok (.invokespecial 9, 3) := by decide +kernel
theorem dL_law_7 : decode cL_law 7 = .ok (.astore_n 1, 1) := by decide +kernel
theorem dL_law_8 : decode cL_law 8 = .ok (.new 10, 3) := by decide +kernel
theorem dL_law_11 : decode cL_law 11 = .ok (.dup, 1) := by decide +kernel
theorem dL_law_12 : decode cL_law 12 = .ok (.invokespecial 12, 3) := by decide +kernel
theorem dL_law_15 : decode cL_law 15 = .ok (.astore_n 2, 1) := by decide +kernel
theorem dL_law_16 : decode cL_law 16 = .ok (.iconst 0, 1) := by decide +kernel
theorem dL_law_17 : decode cL_law 17 = .ok (.istore_n 3, 1) := by decide +kernel
theorem dL_law_18 : decode cL_law 18 = .ok (.iload_n 3, 1) := by decide +kernel
theorem dL_law_19 : decode cL_law 19 = .ok (.aload_n 0, 1) := by decide +kernel
theorem dL_law_20 : decode cL_law 20 = .ok (.arraylength, 1) := by decide +kernel
theorem dL_law_21 : decode cL_law 21 = .ok (.bipush 6, 2) := by decide +kernel
theorem dL_law_23 : decode cL_law 23 = .ok (.isub, 1) := by decide +kernel
theorem dL_law_24 : decode cL_law 24 = .ok (.if_icmp .gt 1508, 3) := by decide +kernel
theorem dL_law_27 : decode cL_law 27 = .ok (.aload_n 0, 1) := by decide +kernel
theorem dL_law_28 : decode cL_law 28 = .ok (.iload_n 3, 1) := by decide +kernel
theorem dL_law_29 : decode cL_law 29 = .ok (.iaload, 1) := by decide +kernel
theorem dL_law_30 : decode cL_law 30 = .ok (.bipush 63, 2) := by decide +kernel
theorem dL_law_32 : decode cL_law 32 = .ok (.iand, 1) := by decide +kernel
theorem dL_law_33 : decode cL_law 33 = .ok (.tableswitch 1493 0 45 #[199, 222, 265, 308, 357, 380, 413, 436, 479, 522, 575, 618, 671, 714, 777, 820, 853, 876, 889, 902, 915, 928, 951, 974, 997, 1020, 1043, 1076, 1109, 1142, 1165, 1188, 1201, 1224, 1237, 1270, 1283, 1306, 1329, 1352, 1365, 1378, 1421, 1434, 1447, 1480], 199) := by decide +kernel
theorem dL_law_232 : decode cL_law 232 = .ok (.aload_n 1, 1) := by decide +kernel
theorem dL_law_233 : decode cL_law 233 = .ok (.aload_n 0, 1) := by decide +kernel
theorem dL_law_234 : decode cL_law 234 = .ok (.iload_n 3, 1) := by decide +kernel
theorem dL_law_235 : decode cL_law 235 = .ok (.iconst 1, 1) := by decide +kernel
theorem dL_law_236 : decode cL_law 236 = .ok (.iadd, 1) := by decide +kernel
theorem dL_law_237 : decode cL_law 237 = .ok (.iaload, 1) := by decide +kernel
theorem dL_law_238 : decode cL_law 238 = .ok (.invokevirtual 13, 3) := by decide +kernel
theorem dL_law_241 : decode cL_law 241 = .ok (.aload_n 2, 1) := by decide +kernel
theorem dL_law_242 : decode cL_law 242 = .ok (.aload_n 0, 1) := by decide +kernel
theorem dL_law_243 : decode cL_law 243 = .ok (.iload_n 3, 1) := by decide +kernel
theorem dL_law_244 : decode cL_law 244 = .ok (.iconst 1, 1) := by decide +kernel
theorem dL_law_245 : decode cL_law 245 = .ok (.iadd, 1) := by decide +kernel
theorem dL_law_246 : decode cL_law 246 = .ok (.iaload, 1) := by decide +kernel
theorem dL_law_247 : decode cL_law 247 = .ok (.invokevirtual 17, 3) := by decide +kernel
theorem dL_law_250 : decode cL_law 250 = .ok (.if_icmp .eq 1276, 3) := by decide +kernel
theorem dL_law_253 : decode cL_law 253 = .ok (.iconst 0, 1) := by decide +kernel
theorem dL_law_254 : decode cL_law 254 = .ok (.ireturn, 1) := by decide +kernel
theorem dL_law_255 : decode cL_law 255 = .ok (.aload_n 1, 1) := by decide +kernel
theorem dL_law_256 : decode cL_law 256 = .ok (.aload_n 0, 1) := by decide +kernel
theorem dL_law_257 : decode cL_law 257 = .ok (.iload_n 3, 1) := by decide +kernel
theorem dL_law_258 : decode cL_law 258 = .ok (.iconst 1, 1) := by decide +kernel
theorem dL_law_259 : decode cL_law 259 = .ok (.iadd, 1) := by decide +kernel
theorem dL_law_260 : decode cL_law 260 = .ok (.iaload, 1) := by decide +kernel
theorem dL_law_261 : decode cL_law 261 = .ok (.aload_n 0, 1) := by decide +kernel
theorem dL_law_262 : decode cL_law 262 = .ok (.iload_n 3, 1) := by decide +kernel
theorem dL_law_263 : decode cL_law 263 = .ok (.iconst 2, 1) := by decide +kernel
theorem dL_law_264 : decode cL_law 264 = .ok (.iadd, 1) := by decide +kernel
theorem dL_law_265 : decode cL_law 265 = .ok (.iaload, 1) := by decide +kernel
theorem dL_law_266 : decode cL_law 266 = .ok (.aload_n 0, 1) := by decide +kernel
theorem dL_law_267 : decode cL_law 267 = .ok (.iload_n 3, 1) := by decide +kernel
theorem dL_law_268 : decode cL_law 268 = .ok (.iconst 3, 1) := by decide +kernel
theorem dL_law_269 : decode cL_law 269 = .ok (.iadd, 1) := by decide +kernel
theorem dL_law_270 : decode cL_law 270 = .ok (.iaload, 1) := by decide +kernel
theorem dL_law_271 : decode cL_law 271 = .ok (.invokevirtual 18, 3) := by decide +kernel
theorem dL_law_274 : decode cL_law 274 = .ok (.aload_n 2, 1) := by decide +kernel
theorem dL_law_275 : decode cL_law 275 = .ok (.aload_n 0, 1) := by decide +kernel
theorem dL_law_276 : decode cL_law 276 = .ok (.iload_n 3, 1) := by decide +kernel
theorem dL_law_277 : decode cL_law 277 = .ok (.iconst 1, 1) := by decide +kernel
theorem dL_law_278 : decode cL_law 278 = .ok (.iadd, 1) := by decide +kernel
theorem dL_law_279 : decode cL_law 279 = .ok (.iaload, 1) := by decide +kernel
theorem dL_law_280 : decode cL_law 280 = .ok (.aload_n 0, 1) := by decide +kernel
theorem dL_law_281 : decode cL_law 281 = .ok (.iload_n 3, 1) := by decide +kernel
theorem dL_law_282 : decode cL_law 282 = .ok (.iconst 2, 1) := by decide +kernel
theorem dL_law_283 : decode cL_law 283 = .ok (.iadd, 1) := by decide +kernel
theorem dL_law_284 : decode cL_law 284 = .ok (.iaload, 1) := by decide +kernel
theorem dL_law_285 : decode cL_law 285 = .ok (.aload_n 0, 1) := by decide +kernel
theorem dL_law_286 : decode cL_law 286 = .ok (.iload_n 3, 1) := by decide +kernel
theorem dL_law_287 : decode cL_law 287 = .ok (.iconst 3, 1) := by decide +kernel
theorem dL_law_288 : decode cL_law 288 = .ok (.iadd, 1) := by decide +kernel
theorem dL_law_289 : decode cL_law 289 = .ok (.iaload, 1) := by decide +kernel
theorem dL_law_290 : decode cL_law 290 = .ok (.invokevirtual 22, 3) := by decide +kernel
theorem dL_law_293 : decode cL_law 293 = .ok (.if_icmp .eq 1233, 3) := by decide +kernel
theorem dL_law_296 : decode cL_law 296 = .ok (.iconst 0, 1) := by decide +kernel
theorem dL_law_297 : decode cL_law 297 = .ok (.ireturn, 1) := by decide +kernel
theorem dL_law_298 : decode cL_law 298 = .ok (.aload_n 1, 1) := by decide +kernel
theorem dL_law_299 : decode cL_law 299 = .ok (.aload_n 0, 1) := by decide +kernel
theorem dL_law_300 : decode cL_law 300 = .ok (.iload_n 3, 1) := by decide +kernel
theorem dL_law_301 : decode cL_law 301 = .ok (.iconst 1, 1) := by decide +kernel
theorem dL_law_302 : decode cL_law 302 = .ok (.iadd, 1) := by decide +kernel
theorem dL_law_303 : decode cL_law 303 = .ok (.iaload, 1) := by decide +kernel
theorem dL_law_304 : decode cL_law 304 = .ok (.aload_n 0, 1) := by decide +kernel
theorem dL_law_305 : decode cL_law 305 = .ok (.iload_n 3, 1) := by decide +kernel
theorem dL_law_306 : decode cL_law 306 = .ok (.iconst 2, 1) := by decide +kernel
theorem dL_law_307 : decode cL_law 307 = .ok (.iadd, 1) := by decide +kernel
theorem dL_law_308 : decode cL_law 308 = .ok (.iaload, 1) := by decide +kernel
theorem dL_law_309 : decode cL_law 309 = .ok (.aload_n 0, 1) := by decide +kernel
theorem dL_law_310 : decode cL_law 310 = .ok (.iload_n 3, 1) := by decide +kernel
theorem dL_law_311 : decode cL_law 311 = .ok (.iconst 3, 1) := by decide +kernel
theorem dL_law_312 : decode cL_law 312 = .ok (.iadd, 1) := by decide +kernel
theorem dL_law_313 : decode cL_law 313 = .ok (.iaload, 1) := by decide +kernel
theorem dL_law_314 : decode cL_law 314 = .ok (.invokevirtual 23, 3) := by decide +kernel
theorem dL_law_317 : decode cL_law 317 = .ok (.aload_n 2, 1) := by decide +kernel
theorem dL_law_318 : decode cL_law 318 = .ok (.aload_n 0, 1) := by decide +kernel
theorem dL_law_319 : decode cL_law 319 = .ok (.iload_n 3, 1) := by decide +kernel
theorem dL_law_320 : decode cL_law 320 = .ok (.iconst 1, 1) := by decide +kernel
theorem dL_law_321 : decode cL_law 321 = .ok (.iadd, 1) := by decide +kernel
theorem dL_law_322 : decode cL_law 322 = .ok (.iaload, 1) := by decide +kernel
theorem dL_law_323 : decode cL_law 323 = .ok (.aload_n 0, 1) := by decide +kernel
theorem dL_law_324 : decode cL_law 324 = .ok (.iload_n 3, 1) := by decide +kernel
theorem dL_law_325 : decode cL_law 325 = .ok (.iconst 2, 1) := by decide +kernel
theorem dL_law_326 : decode cL_law 326 = .ok (.iadd, 1) := by decide +kernel
theorem dL_law_327 : decode cL_law 327 = .ok (.iaload, 1) := by decide +kernel
theorem dL_law_328 : decode cL_law 328 = .ok (.aload_n 0, 1) := by decide +kernel
theorem dL_law_329 : decode cL_law 329 = .ok (.iload_n 3, 1) := by decide +kernel
theorem dL_law_330 : decode cL_law 330 = .ok (.iconst 3, 1) := by decide +kernel
theorem dL_law_331 : decode cL_law 331 = .ok (.iadd, 1) := by decide +kernel
theorem dL_law_332 : decode cL_law 332 = .ok (.iaload, 1) := by decide +kernel
theorem dL_law_333 : decode cL_law 333 = .ok (.invokevirtual 26, 3) := by decide +kernel
theorem dL_law_336 : decode cL_law 336 = .ok (.if_icmp .eq 1190, 3) := by decide +kernel
theorem dL_law_339 : decode cL_law 339 = .ok (.iconst 0, 1) := by decide +kernel
theorem dL_law_340 : decode cL_law 340 = .ok (.ireturn, 1) := by decide +kernel
theorem dL_law_341 : decode cL_law 341 = .ok (.aload_n 1, 1) := by decide +kernel
theorem dL_law_342 : decode cL_law 342 = .ok (.aload_n 0, 1) := by decide +kernel
