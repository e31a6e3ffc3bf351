theorem dL_holds_396 : decode cL_holds 396 = .ok (.bipush (-6), 2) := by decide +kernel
theorem dL_holds_398 : decode cL_holds 398 = .ok (.if_icmp .ne 7, 3) := by decide +kernel
theorem dL_holds_401 : decode cL_holds 401 = .ok (.iconst 1, 1) := by decide +kernel
theorem dL_holds_402 : decode cL_holds 402 = .ok (.goto 4, 3) := by decide +kernel
theorem dL_holds_405 : decode cL_holds 405 = .ok (.iconst 0, 1) := by decide +kernel
theorem dL_holds_406 : decode cL_holds 406 = .ok (.aload_n 0, 1) := by decide +kernel
theorem dL_holds_407 : decode cL_holds 407 = .ok (.iload 8, 2) := by decide +kernel
theorem dL_holds_409 : decode cL_holds 409 = .ok (.invokevirtual 129, 3) := by decide +kernel
theorem dL_holds_412 : decode cL_holds 412 = .ok (.ifCond .ne 7, 3) := by decide +kernel
theorem dL_holds_415 : decode cL_holds 415 = .ok (.iconst 1, 1) := by decide +kernel
theorem dL_holds_416 : decode cL_holds 416 = .ok (.goto 4, 3) := by decide +kernel
theorem dL_holds_419 : decode cL_holds 419 = .ok (.iconst 0, 1) := by decide +kernel
theorem dL_holds_420 : decode cL_holds 420 = .ok (.if_icmp .ne 36, 3) := by decide +kernel
theorem dL_holds_423 : decode cL_holds 423 = .ok (.aload_n 0, 1) := by decide +kernel
theorem dL_holds_424 : decode cL_holds 424 = .ok (.iload 8, 2) := by decide +kernel
theorem dL_holds_426 : decode cL_holds 426 = .ok (.invokevirtual 129, 3) := by decide +kernel
theorem dL_holds_429 : decode cL_holds 429 = .ok (.ifCond .eq 23, 3) := by decide +kernel
theorem dL_holds_432 : decode cL_holds 432 = .ok (.iload 7, 2) := by decide +kernel
theorem dL_holds_434 : decode cL_holds 434 = .ok (.ifCond .lt 22, 3) := by decide +kernel
theorem dL_holds_437 : decode cL_holds 437 = .ok (.aload_n 0, 1) := by decide +kernel
theorem dL_holds_438 : decode cL_holds 438 = .ok (.iload 7, 2) := by decide +kernel
theorem dL_holds_440 : decode cL_holds 440 = .ok (.invokevirtual 129, 3) := by decide +kernel
theorem dL_holds_443 : decode cL_holds 443 = .ok (.aload_n 0, 1) := by decide +kernel
theorem dL_holds_444 : decode cL_holds 444 = .ok (.iload 8, 2) := by decide +kernel
theorem dL_holds_446 : decode cL_holds 446 = .ok (.invokevirtual 129, 3) := by decide +kernel
theorem dL_holds_449 : decode cL_holds 449 = .ok (.if_icmp .lt 7, 3) := by decide +kernel
theorem dL_holds_452 : decode cL_holds 452 = .ok (.iconst 1, 1) := by decide +kernel
theorem dL_holds_453 : decode cL_holds 453 = .ok (.goto 4, 3) := by decide +kernel
theorem dL_holds_456 : decode cL_holds 456 = .ok (.iconst 0, 1) := by decide +kernel
theorem dL_holds_457 : decode cL_holds 457 = .ok (.istore 6, 2) := by decide +kernel
theorem dL_holds_459 : decode cL_holds 459 = .ok (.iinc 8 1, 3) := by decide +kernel
theorem dL_holds_462 : decode cL_holds 462 = .ok (.goto (-95), 3) := by decide +kernel
theorem dL_holds_465 : decode cL_holds 465 = .ok (.iload 6, 2) := by decide +kernel
theorem dL_holds_467 : decode cL_holds 467 = .ok (.ifCond .eq 69, 3) := by decide +kernel
theorem dL_holds_470 : decode cL_holds 470 = .ok (.iload_n 1, 1) := by decide +kernel
theorem dL_holds_471 : decode cL_holds 471 = .ok (.iload_n 2, 1) := by decide +kernel
theorem dL_holds_472 : decode cL_holds 472 = .ok (.if_icmp .ne 64, 3) := by decide +kernel
theorem dL_holds_475 : decode cL_holds 475 = .ok (.aload_n 0, 1) := by decide +kernel
theorem dL_holds_476 : decode cL_holds 476 = .ok (.invokevirtual 135, 3) := by decide +kernel
theorem dL_holds_479 : decode cL_holds 479 = .ok (.iload 4, 2) := by decide +kernel
theorem dL_holds_481 : decode cL_holds 481 = .ok (.if_icmp .ne 55, 3) := by decide +kernel
theorem dL_holds_484 : decode cL_holds 484 = .ok (.iload 7, 2) := by decide +kernel
theorem dL_holds_486 : decode cL_holds 486 = .ok (.bipush (-6), 2) := by decide +kernel
theorem dL_holds_488 : decode cL_holds 488 = .ok (.if_icmp .ne 7, 3) := by decide +kernel
theorem dL_holds_491 : decode cL_holds 491 = .ok (.iconst 1, 1) := by decide +kernel
theorem dL_holds_492 : decode cL_holds 492 = .ok (.goto 4, 3) := by decide +kernel
theorem dL_holds_495 : decode cL_holds 495 = .ok (.iconst 0, 1) := by decide +kernel
theorem dL_holds_496 : decode cL_holds 496 = .ok (.iload_n 2, 1) := by decide +kernel
theorem dL_holds_497 : decode cL_holds 497 = .ok (.ifCond .ne 7, 3) := by decide +kernel
theorem dL_holds_500 : decode cL_holds 500 = .ok (.iconst 1, 1) := by decide +kernel
theorem dL_holds_501 : decode cL_holds 501 = .ok (.goto 4, 3) := by decide +kernel
theorem dL_holds_504 : decode cL_holds 504 = .ok (.iconst 0, 1) := by decide +kernel
theorem dL_holds_505 : decode cL_holds 505 = .ok (.if_icmp .ne 31, 3) := by decide +kernel
theorem dL_holds_508 : decode cL_holds 508 = .ok (.aload_n 0, 1) := by decide +kernel
theorem dL_holds_509 : decode cL_holds 509 = .ok (.invokevirtual 138, 3) := by decide +kernel
theorem dL_holds_512 : decode cL_holds 512 = .ok (.iload_n 3, 1) := by decide +kernel
theorem dL_holds_513 : decode cL_holds 513 = .ok (.iload 5, 2) := by decide +kernel
theorem dL_holds_515 : decode cL_holds 515 = .ok (.isub, 1) := by decide +kernel
theorem dL_holds_516 : decode cL_holds 516 = .ok (.if_icmp .ne 20, 3) := by decide +kernel
theorem dL_holds_519 : decode cL_holds 519 = .ok (.aload_n 0, 1) := by decide +kernel
theorem dL_holds_520 : decode cL_holds 520 = .ok (.invokevirtual 141, 3) := by decide +kernel
theorem dL_holds_523 : decode cL_holds 523 = .ok (.iload_n 3, 1) := by decide +kernel
theorem dL_holds_524 : decode cL_holds 524 = .ok (.i2f, 1) := by decide +kernel
theorem dL_holds_525 : decode cL_holds 525 = .ok (.ldc 145, 2) := by decide +kernel
theorem dL_holds_527 : decode cL_holds 527 = .ok (.fdiv, 1) := by decide +kernel
theorem dL_holds_528 : decode cL_holds 528 = .ok (.fcmp .l, 1) := by decide +kernel
theorem dL_holds_529 : decode cL_holds 529 = .ok (.ifCond .ne 7, 3) := by decide +kernel
theorem dL_holds_532 : decode cL_holds 532 = .ok (.iconst 1, 1) := by decide +kernel
theorem dL_holds_533 : decode cL_holds 533 = .ok (.goto 4, 3) := by decide +kernel
theorem dL_holds_536 : decode cL_holds 536 = .ok (.iconst 0, 1) := by decide +kernel
theorem dL_holds_537 : decode cL_holds 537 = .ok (.ireturn, 1) := by decide +kernel
set_option maxRecDepth 20000 in
theorem ggL_isHealed_L_told : GoodIn wsL_isHealed wsL_told := goodIn_r _ [4, 5, 6, 7, 8, 9, 10, 11, 12, 13, 14, 15, 16, 17, 18, 19, 20, 21, 22, 23, 24, 25, 26, 27, 28, 29, 30, 31, 32, 33, 34, 35, 36, 37, 38, 39, 40, 41, 42, 43, 44, 45, 46, 47, 48, 49, 50, 51, 52, 53, 54, 55, 56, 57, 58, 59, 60, 61, 62, 63, 64, 65, 66, 67, 68, 69, 70, 71, 72, 73, 74, 75, 76, 77, 78, 79, 80, 81, 275, 276, 277, 278, 279, 280, 281, 282, 283, 284, 285, 286, 287, 288, 289, 290, 291, 292, 293, 294, 295] (by decide +kernel) (by decide +kernel)
set_option maxRecDepth 20000 in
theorem gL_isHealed_L_told : GoodIn wsL_isHealed (va_wsS RL 146 yL_told wsL_told) := goodIn_app (goodIn_of _ (by decide +kernel)) ggL_isHealed_L_told
set_option maxRecDepth 20000 in
theorem ggL_isHealed_X5_healed : GoodIn wsL_isHealed wsX5_healed := goodIn_r _ [20, 12, 275, 276, 277, 278, 279, 280, 281, 282, 283, 284, 285, 286, 287, 288, 289] (by decide +kernel) (by decide +kernel)
set_option maxRecDepth 20000 in
theorem gL_isHealed_X5_healed : GoodIn wsL_isHealed (wsV RL 22 RX5 yX5_healed wsX5_healed) := goodIn_app (goodIn_of _ (by decide +kernel)) ggL_isHealed_X5_healed
set_option maxRecDepth 20000 in
theorem ggL_isHealed_X5_poisoned : GoodIn wsL_isHealed wsX5_poisoned := goodIn_r _ [85, 12, 86, 87, 10, 88, 89, 90, 91, 92, 93, 94, 95, 96, 97, 98, 275, 276, 277, 278, 279, 280, 281, 282, 283, 284, 285, 286, 287, 288, 289, 293, 294, 295] (by decide +kernel) (by decide +kernel)
set_option maxRecDepth 20000 in
theorem gL_isHealed_X5_poisoned : GoodIn wsL_isHealed (wsV RL 150 RX5 yX5_poisoned wsX5_poisoned) := goodIn_app (goodIn_of _ (by decide +kernel)) ggL_isHealed_X5_poisoned
set_option maxRecDepth 20000 in
theorem ggL_isHealed_X5_origin : GoodIn wsL_isHealed wsX5_origin := goodIn_r _ [31, 12, 25, 26, 10, 27, 275, 276, 277, 278, 279, 280, 281, 282, 283, 284, 285, 286, 287, 288, 289, 293, 294, 295] (by decide +kernel) (by decide +kernel)
set_option maxRecDepth 20000 in
theorem gL_isHealed_X5_origin : GoodIn wsL_isHealed (wsV RL 29 RX5 yX5_origin wsX5_origin) := goodIn_app (goodIn_of _ (by decide +kernel)) ggL_isHealed_X5_origin
set_option maxRecDepth 20000 in
theorem ggL_isHealed_X5_mirrorValue : GoodIn wsL_isHealed wsX5_mirrorValue := goodIn_r _ [39, 12, 25, 26, 10, 27, 40, 41, 42, 43, 44, 275, 276, 277, 278, 279, 280, 281, 282, 283, 284, 285, 286, 287, 288, 289, 293, 294, 295] (by decide +kernel) (by decide +kernel)
set_option maxRecDepth 20000 in
theorem gL_isHealed_X5_mirrorValue : GoodIn wsL_isHealed (wsV RL 35 RX5 yX5_mirrorValue wsX5_mirrorValue) := goodIn_app (goodIn_of _ (by decide +kernel)) ggL_isHealed_X5_mirrorValue
set_option maxRecDepth 20000 in
theorem ggL_isHealed_X5_mirrorOrigin : GoodIn wsL_isHealed wsX5_mirrorOrigin := goodIn_r _ [48, 12, 25, 26, 10, 27, 40, 41, 42, 43, 44, 275, 276, 277, 278, 279, 280, 281, 282, 283, 284, 285, 286, 287, 288, 289, 293, 294, 295] (by decide +kernel) (by decide +kernel)
set_option maxRecDepth 20000 in
theorem gL_isHealed_X5_mirrorOrigin : GoodIn wsL_isHealed (wsV RL 38 RX5 yX5_mirrorOrigin wsX5_mirrorOrigin) := goodIn_app (goodIn_of _ (by decide +kernel)) ggL_isHealed_X5_mirrorOrigin
set_option maxRecDepth 20000 in
theorem ggL_isHealed_X5_bestScrub : GoodIn wsL_isHealed wsX5_bestScrub := goodIn_r _ [102, 12, 103, 41, 104, 105, 106, 107, 108, 109, 110, 111, 112, 95, 96, 92, 97, 98, 113, 40, 42, 43, 44, 275, 276, 277, 278, 279, 280, 281, 282, 283, 284, 285, 286, 287, 288, 289, 293, 294, 295] (by decide +kernel) (by decide +kernel)
set_option maxRecDepth 20000 in
theorem gL_isHealed_X5_bestScrub : GoodIn wsL_isHealed (wsV RL 153 RX5 yX5_bestScrub wsX5_bestScrub) := goodIn_app (goodIn_of _ (by decide +kernel)) ggL_isHealed_X5_bestScrub
set_option maxRecDepth 20000 in
theorem ggL_isHealed_X5_scrub : GoodIn wsL_isHealed wsX5_scrub := goodIn_r _ [117, 118, 12, 119, 120, 121, 122, 123, 124, 125, 126, 127, 128, 129, 41, 130, 110, 111, 131, 132, 133, 134, 135, 136, 137, 44, 138, 139, 140, 141, 142, 143, 144, 92, 145, 146, 147, 98, 148, 149, 150, 151, 152, 153, 154, 155, 156, 157, 158, 159, 160, 161, 162, 163, 164, 87, 10, 88, 165, 166, 167, 168, 106, 107, 108, 109, 112, 95, 96, 97, 113, 40, 42, 43, 169, 170, 171, 172, 173, 174, 175, 176, 177, 178, 179, 180, 181, 182, 183, 184, 185, 186, 275, 276, 277, 278, 279, 296, 297, 298, 280, 281, 282, 283, 284, 285, 286, 287, 288, 289, 293, 294, 295, 290, 291, 292] (by decide +kernel) (by decide +kernel)
set_option maxRecDepth 20000 in
theorem gL_isHealed_X5_scrub : GoodIn wsL_isHealed (wsV RL 80 RX5 yX5_scrub wsX5_scrub) := goodIn_app (goodIn_of _ (by decide +kernel)) ggL_isHealed_X5_scrub
set_option maxRecDepth 20000 in
theorem ggL_isHealed_X5_undo : GoodIn wsL_isHealed wsX5_undo := goodIn_r _ [190, 118, 12, 191, 192, 193, 122, 194, 126, 124, 125, 127, 128, 129, 41, 130, 110, 111, 131, 132, 133, 134, 135, 136, 137, 44, 138, 139, 140, 141, 142, 143, 144, 92, 145, 146, 147, 98, 148, 149, 150, 151, 152, 153, 154, 155, 156, 157, 158, 159, 160, 275, 276, 277, 278, 279, 296, 297, 298, 280, 281, 282, 283, 284, 285, 286, 287, 288, 289, 293, 294, 295, 290, 291, 292] (by decide +kernel) (by decide +kernel)
set_option maxRecDepth 20000 in
theorem gL_isHealed_X5_undo : GoodIn wsL_isHealed (wsV RL 156 RX5 yX5_undo wsX5_undo) := goodIn_app (goodIn_of _ (by decide +kernel)) ggL_isHealed_X5_undo
set_option maxRecDepth 20000 in
theorem ggL_isHealed_X5_stopped : GoodIn wsL_isHealed wsX5_stopped := goodIn_r _ [81, 12, 57, 58, 10, 59, 275, 276, 277, 278, 279, 280, 281, 282, 283, 284, 285, 286, 287, 288, 289] (by decide +kernel) (by decide +kernel)
set_option maxRecDepth 20000 in
theorem gL_isHealed_X5_stopped : GoodIn wsL_isHealed (wsV RL 57 RX5 yX5_stopped wsX5_stopped) := goodIn_app (goodIn_of _ (by decide +kernel)) ggL_isHealed_X5_stopped
set_option maxRecDepth 20000 in
theorem ggL_isHealed_X5_load : GoodIn wsL_isHealed wsX5_load := goodIn_r _ [198, 118, 12, 119, 120, 121, 122, 123, 124, 125, 126, 127, 128, 129, 41, 130, 110, 111, 131, 132, 133, 134, 135, 136, 137, 44, 138, 139, 140, 141, 142, 143, 144, 92, 145, 146, 147, 98, 148, 149, 150, 151, 152, 153, 154, 155, 156, 157, 158, 159, 160, 199, 200, 201, 202, 58, 10, 59, 61, 62, 26, 27, 64, 65, 203, 204, 205, 206, 165, 166, 167, 168, 106, 107, 108, 109, 112, 95, 96, 97, 113, 40, 42, 43, 169, 170, 171, 172, 173, 174, 175, 176, 207, 208, 209, 210, 211, 212, 213, 214, 94, 177, 178, 179, 180, 181, 182, 183, 184, 185, 186, 275, 276, 277, 278, 279, 296, 297, 298, 280, 281, 282, 283, 284, 285, 286, 287, 288, 289, 293, 294, 295, 290, 291, 292] (by decide +kernel) (by decide +kernel)
set_option maxRecDepth 20000 in
theorem gL_isHealed_X5_load : GoodIn wsL_isHealed (wsV RL 92 RX5 yX5_load wsX5_load) := goodIn_app (goodIn_of _ (by decide +kernel)) ggL_isHealed_X5_load
set_option maxRecDepth 20000 in
theorem ggL_isHealed_X5_move : GoodIn wsL_isHealed wsX5_move := goodIn_r _ [218, 118, 12, 119, 120, 121, 122, 123, 124, 125, 126, 127, 128, 129, 41, 130, 110, 111, 131, 132, 133, 134, 135, 136, 137, 44, 138, 139, 140, 141, 142, 143, 144, 92, 145, 146, 147, 98, 148, 149, 150, 151, 152, 153, 154, 155, 156, 157, 158, 159, 160, 219, 220, 221, 222, 58, 10, 59, 61, 62, 64, 65, 207, 208, 209, 210, 211, 212, 213, 214, 94, 95, 96, 97, 173, 174, 175, 176, 177, 178, 179, 180, 181, 182, 183, 184, 185, 186, 275, 276, 277, 278, 279, 296, 297, 298, 280, 281, 282, 283, 284, 285, 286, 287, 288, 289, 293, 294, 295, 290, 291, 292] (by decide +kernel) (by decide +kernel)
set_option maxRecDepth 20000 in
theorem gL_isHealed_X5_move : GoodIn wsL_isHealed (wsV RL 105 RX5 yX5_move wsX5_move) := goodIn_app (goodIn_of _ (by decide +kernel)) ggL_isHealed_X5_move
set_option maxRecDepth 20000 in
theorem ggL_isHealed_X5_output : GoodIn wsL_isHealed wsX5_output := goodIn_r _ [226, 118, 12, 119, 120, 121, 122, 123, 124, 125, 126, 127, 128, 129, 41, 130, 110, 111, 131, 132, 133, 134, 135, 136, 137, 44, 138, 139, 140, 141, 142, 143, 144, 92, 145, 146, 147, 98, 148, 149, 150, 151, 152, 153, 154, 155, 156, 157, 158, 159, 160, 227, 228, 229, 230, 58, 10, 59, 61, 62, 231, 232, 233, 234, 64, 65, 112, 95, 96, 97, 235, 236, 237, 238, 239, 212, 213, 214, 240, 241, 242, 243, 244, 245, 246, 247, 173, 174, 175, 176, 177, 178, 179, 180, 181, 182, 183, 184, 185, 186, 275, 276, 277, 278, 279, 296, 297, 298, 280, 281, 282, 283, 284, 285, 286, 287, 288, 289, 293, 294, 295, 290, 291, 292] (by decide +kernel) (by decide +kernel)
set_option maxRecDepth 20000 in
theorem gL_isHealed_X5_output : GoodIn wsL_isHealed (wsV RL 115 RX5 yX5_output wsX5_output) := goodIn_app (goodIn_of _ (by decide +kernel)) ggL_isHealed_X5_output
set_option maxRecDepth 20000 in
theorem ggL_isHealed_X5_store : GoodIn wsL_isHealed wsX5_store := goodIn_r _ [251, 118, 12, 119, 120, 121, 122, 123, 124, 125, 126, 127, 128, 129, 41, 130, 110, 111, 131, 132, 133, 134, 135, 136, 137, 44, 138, 139, 140, 141, 142, 143, 144, 92, 145, 146, 147, 98, 148, 149, 150, 151, 152, 153, 154, 155, 156, 157, 158, 159, 160, 252, 253, 254, 255, 58, 10, 59, 61, 62, 26, 27, 64, 65, 256, 257, 258, 259, 207, 208, 209, 210, 211, 212, 213, 214, 94, 95, 96, 97, 173, 174, 175, 176, 260, 261, 262, 263, 113, 40, 42, 43, 169, 170, 171, 172, 112, 177, 178, 179, 180, 181, 182, 183, 184, 185, 186, 275, 276, 277, 278, 279, 296, 297, 298, 280, 281, 282, 283, 284, 285, 286, 287, 288, 289, 293, 294, 295, 290, 291, 292] (by decide +kernel) (by decide +kernel)
set_option maxRecDepth 20000 in
theorem gL_isHealed_X5_store : GoodIn wsL_isHealed (wsV RL 99 RX5 yX5_store wsX5_store) := goodIn_app (goodIn_of _ (by decide +kernel)) ggL_isHealed_X5_store
set_option maxRecDepth 20000 in
theorem ggL_isHealed_X5_setRegister : GoodIn wsL_isHealed wsX5_setRegister := goodIn_r _ [267, 118, 12, 119, 120, 121, 122, 123, 124, 125, 126, 127, 128, 129, 41, 130, 110, 111, 131, 132, 133, 134, 135, 136, 137, 44, 138, 139, 140, 141, 142, 143, 144, 92, 145, 146, 147, 98, 148, 149, 150, 151, 152, 153, 154, 155, 156, 157, 158, 159, 160, 268, 269, 270, 271, 58, 10, 59, 61, 62, 272, 273, 274, 64, 65, 244, 245, 246, 247, 173, 174, 175, 176, 177, 178, 179, 180, 181, 182, 183, 184, 185, 186, 275, 276, 277, 278, 279, 296, 297, 298, 280, 281, 282, 283, 284, 285, 286, 287, 288, 289, 293, 294, 295, 290, 291, 292] (by decide +kernel) (by decide +kernel)
set_option maxRecDepth 20000 in
theorem gL_isHealed_X5_setRegister : GoodIn wsL_isHealed (wsV RL 89 RX5 yX5_setRegister wsX5_setRegister) := goodIn_app (goodIn_of _ (by decide +kernel)) ggL_isHealed_X5_setRegister
theorem dL_isHealed_0 : decode cL_isHealed 0 = .ok (.aload_n 0, 1) := by decide +kernel
theorem dL_isHealed_1 : decode cL_isHealed 1 = .ok (.invokestatic 146, 3) := by decide +kernel
theorem dL_isHealed_4 : decode cL_isHealed 4 = .ok (.lstore_n 2, 1) := by decide +kernel
theorem dL_isHealed_5 : decode cL_isHealed 5 = .ok (.aload_n 0, 1) := by decide +kernel
theorem dL_isHealed_6 : decode cL_isHealed 6 = .ok (.invokevirtual 22, 3) := by decide +kernel
theorem dL_isHealed_9 : decode cL_isHealed 9 = .ok (.istore 4, 2) := by decide +kernel
theorem dL_isHealed_11 : decode cL_isHealed 11 = .ok (.aload_n 0, 1) := by decide +kernel
theorem dL_isHealed_12 : decode cL_isHealed 12 = .ok (.iload_n 1, 1) := by decide +kernel
theorem dL_isHealed_13 : decode cL_isHealed 13 = .ok (.invokevirtual 150, 3) := by decide +kernel
theorem dL_isHealed_16 : decode cL_isHealed 16 = .ok (.istore 5, 2) := by decide +kernel
theorem dL_isHealed_18 : decode cL_isHealed 18 = .ok (.iconst 0, 1) := by decide +kernel
theorem dL_isHealed_19 : decode cL_isHealed 19 = .ok (.istore 6, 2) := by decide +kernel
theorem dL_isHealed_21 : decode cL_isHealed 21 = .ok (.iconst 4, 1) := by decide +kernel
theorem dL_isHealed_22 : decode cL_isHealed 22 = .ok (.iload_n 1, 1) := by decide +kernel
theorem dL_isHealed_23 : decode cL_isHealed 23 = .ok (.imul, 1) := by decide +kernel
theorem dL_isHealed_24 : decode cL_isHealed 24 = .ok (.istore 7, 2) := by decide +kernel
theorem dL_isHealed_26 : decode cL_isHealed 26 = .ok (.iload 7, 2) := by decide +kernel
theorem dL_isHealed_28 : decode cL_isHealed 28 = .ok (.iconst 4, 1) := by decide +kernel
theorem dL_isHealed_29 : decode cL_isHealed 29 = .ok (.iload_n 1, 1) := by decide +kernel
theorem dL_isHealed_30 : decode cL_isHealed 30 = .ok (.imul, 1) := by decide +kernel
theorem dL_isHealed_31 : decode cL_isHealed 31 = .ok (.iconst 4, 1) := by decide +kernel
theorem dL_isHealed_32 : decode cL_isHealed 32 = .ok (.iadd, 1) := by decide +kernel
theorem dL_isHealed_33 : decode cL_isHealed 33 = .ok (.if_icmp .ge 50, 3) := by decide +kernel
theorem dL_isHealed_36 : decode cL_isHealed 36 = .ok (.iload 6, 2) := by decide +kernel
theorem dL_isHealed_38 : decode cL_isHealed 38 = .ok (.aload_n 0, 1) := by decide +kernel
theorem dL_isHealed_39 : decode cL_isHealed 39 = .ok (.iload 7, 2) := by decide +kernel
theorem dL_isHealed_41 : decode cL_isHealed 41 = .ok (.invokevirtual 29, 3) := by decide +kernel
theorem dL_isHealed_44 : decode cL_isHealed 44 = .ok (.bipush (-6), 2) := by decide +kernel
theorem dL_isHealed_46 : decode cL_isHealed 46 = .ok (.if_icmp .eq 27, 3) := by decide +kernel
theorem dL_isHealed_49 : decode cL_isHealed 49 = .ok (.aload_n 0, 1) := by decide +kernel
theorem dL_isHealed_50 : decode cL_isHealed 50 = .ok (.iload 7, 2) := by decide +kernel
theorem dL_isHealed_52 : decode cL_isHealed 52 = .ok (.invokevirtual 35, 3) := by decide +kernel
theorem dL_isHealed_55 : decode cL_isHealed 55 = .ok (.ifCond .lt 18, 3) := by decide +kernel
theorem dL_isHealed_58 : decode cL_isHealed 58 = .ok (.aload_n 0, 1) := by decide +kernel
theorem dL_isHealed_59 : decode cL_isHealed 59 = .ok (.iload 7, 2) := by decide +kernel
theorem dL_isHealed_61 : decode cL_isHealed 61 = .ok (.invokevirtual 38, 3) := by decide +kernel
theorem dL_isHealed_64 : decode cL_isHealed 64 = .ok (.bipush (-6), 2) := by decide +kernel
theorem dL_isHealed_66 : decode cL_isHealed 66 = .ok (.if_icmp .ne 7, 3) := by decide +kernel
theorem dL_isHealed_69 : decode cL_isHealed 69 = .ok (.iconst 1, 1) := by decide +kernel
theorem dL_isHealed_70 : decode cL_isHealed 70 = .ok (.goto 4, 3) := by decide +kernel
theorem dL_isHealed_73 : decode cL_isHealed 73 = .ok (.iconst 0, 1) := by decide +kernel
theorem dL_isHealed_74 : decode cL_isHealed 74 = .ok (.iadd, 1) := by decide +kernel
theorem dL_isHealed_75 : decode cL_isHealed 75 = .ok (.istore 6, 2) := by decide +kernel
theorem dL_isHealed_77 : decode cL_isHealed 77 = .ok (.iinc 7 1, 3) := by decide +kernel
theorem dL_isHealed_80 : decode cL_isHealed 80 = .ok (.goto (-54), 3) := by decide +kernel
theorem dL_isHealed_83 : decode cL_isHealed 83 = .ok (.aload_n 0, 1) := by decide +kernel
theorem dL_isHealed_84 : decode cL_isHealed 84 = .ok (.invokevirtual 153, 3) := by decide +kernel
theorem dL_isHealed_87 : decode cL_isHealed 87 = .ok (.istore 7, 2) := by decide +kernel
theorem dL_isHealed_89 : decode cL_isHealed 89 = .ok (.aload_n 0, 1) := by decide +kernel
theorem dL_isHealed_90 : decode cL_isHealed 90 = .ok (.iload_n 1, 1) := by decide +kernel
theorem dL_isHealed_91 : decode cL_isHealed 91 = .ok (.invokevirtual 80, 3) := by decide +kernel
theorem dL_isHealed_94 : decode cL_isHealed 94 = .ok (.iload 6, 2) := by decide +kernel
theorem dL_isHealed_96 : decode cL_isHealed 96 = .ok (.if_icmp .ne 42, 3) := by decide +kernel
theorem dL_isHealed_99 : decode cL_isHealed 99 = .ok (.aload_n 0, 1) := by decide +kernel
theorem dL_isHealed_100 : decode cL_isHealed 100 = .ok (.iload_n 1, 1) := by decide +kernel
theorem dL_isHealed_101 : decode cL_isHealed 101 = .ok (.invokevirtual 150, 3) := by decide +kernel
theorem dL_isHealed_104 : decode cL_isHealed 104 = .ok (.iload 5, 2) := by decide +kernel
theorem dL_isHealed_106 : decode cL_isHealed 106 = .ok (.iload 6, 2) := by decide +kernel
theorem dL_isHealed_108 : decode cL_isHealed 108 = .ok (.isub, 1) := by decide +kernel
theorem dL_isHealed_109 : decode cL_isHealed 109 = .ok (.if_icmp .ne 29, 3) := by decide +kernel
theorem dL_isHealed_112 : decode cL_isHealed 112 = .ok (.aload_n 0, 1) := by decide +kernel
theorem dL_isHealed_113 : decode cL_isHealed 113 = .ok (.invokevirtual 22, 3) := by decide +kernel
theorem dL_isHealed_116 : decode cL_isHealed 116 = .ok (.iload 4, 2) := by decide +kernel
theorem dL_isHealed_118 : decode cL_isHealed 118 = .ok (.iload 6, 2) := by decide +kernel
theorem dL_isHealed_120 : decode cL_isHealed 120 = .ok (.iadd, 1) := by decide +kernel
theorem dL_isHealed_121 : decode cL_isHealed 121 = .ok (.if_icmp .ne 17, 3) := by decide +kernel
theorem dL_isHealed_124 : decode cL_isHealed 124 = .ok (.iload 6, 2) := by decide +kernel
theorem dL_isHealed_126 : decode cL_isHealed 126 = .ok (.ifCond .eq 8, 3) := by decide +kernel
theorem dL_isHealed_129 : decode cL_isHealed 129 = .ok (.iload 7, 2) := by decide +kernel
theorem dL_isHealed_131 : decode cL_isHealed 131 = .ok (.ifCond .lt 7, 3) := by decide +kernel
theorem dL_isHealed_134 : decode cL_isHealed 134 = .ok (.iconst 1, 1) := by decide +kernel
theorem dL_isHealed_135 : decode cL_isHealed 135 = .ok (.goto 4, 3) := by decide +kernel
theorem dL_isHealed_138 : decode cL_isHealed 138 = .ok (.iconst 0, 1) := by decide +kernel
theorem dL_isHealed_139 : decode cL_isHealed 139 = .ok (.istore 8, 2) := by decide +kernel
theorem dL_isHealed_141 : decode cL_isHealed 141 = .ok (.iconst 4, 1) := by decide +kernel
theorem dL_isHealed_142 : decode cL_isHealed 142 = .ok (.iload_n 1, 1) := by decide +kernel
theorem dL_isHealed_143 : decode cL_isHealed 143 = .ok (.imul, 1) := by decide +kernel
theorem dL_isHealed_144 : decode cL_isHealed 144 = .ok (.istore 9, 2) := by decide +kernel
theorem dL_isHealed_146 : decode cL_isHealed 146 = .ok (.iload 9, 2) := by decide +kernel
theorem dL_isHealed_148 : decode cL_isHealed 148 = .ok (.iconst 4, 1) := by decide +kernel
theorem dL_isHealed_149 : decode cL_isHealed 149 = .ok (.iload_n 1, 1) := by decide +kernel
theorem dL_isHealed_150 : decode cL_isHealed 150 = .ok (.imul, 1) := by decide +kernel
theorem dL_isHealed_151 : decode cL_isHealed 151 = .ok (.iconst 4, 1) := by decide +kernel
theorem dL_isHealed_152 : decode cL_isHealed 152 = .ok (.iadd, 1) := by decide +kernel
theorem dL_isHealed_153 : decode cL_isHealed 153 = .ok (.if_icmp .ge 52, 3) := by decide +kernel
theorem dL_isHealed_156 : decode cL_isHealed 156 = .ok (.iload 8, 2) := by decide +kernel
theorem dL_isHealed_158 : decode cL_isHealed 158 = .ok (.ifCond .eq 38, 3) := by decide +kernel
theorem dL_isHealed_161 : decode cL_isHealed 161 = .ok (.aload_n 0, 1) := by decide +kernel
theorem dL_isHealed_162 : decode cL_isHealed 162 = .ok (.iload 9, 2) := by decide +kernel
theorem dL_isHealed_164 : decode cL_isHealed 164 = .ok (.invokevirtual 29, 3) := by decide +kernel
theorem dL_isHealed_167 : decode cL_isHealed 167 = .ok (.bipush (-6), 2) := by decide +kernel
theorem dL_isHealed_169 : decode cL_isHealed 169 = .ok (.if_icmp .eq 23, 3) := by decide +kernel
theorem dL_isHealed_172 : decode cL_isHealed 172 = .ok (.aload_n 0, 1) := by decide +kernel
theorem dL_isHealed_173 : decode cL_isHealed 173 = .ok (.iload 9, 2) := by decide +kernel
theorem dL_isHealed_175 : decode cL_isHealed 175 = .ok (.invokevirtual 35, 3) := by decide +kernel
theorem dL_isHealed_178 : decode cL_isHealed 178 = .ok (.ifCond .lt 14, 3) := by decide +kernel
theorem dL_isHealed_181 : decode cL_isHealed 181 = .ok (.aload_n 0, 1) := by decide +kernel
theorem dL_isHealed_182 : decode cL_isHealed 182 = .ok (.iload 9, 2) := by decide +kernel
theorem dL_isHealed_184 : decode cL_isHealed 184 = .ok (.invokevirtual 38, 3) := by decide +kernel
theorem dL_isHealed_187 : decode cL_isHealed 187 = .ok (.bipush (-6), 2) := by decide +kernel
theorem dL_isHealed_189 : decode cL_isHealed 189 = .ok (.if_icmp .eq 7, 3) := by decide +kernel
theorem dL_isHealed_192 : decode cL_isHealed 192 = .ok (.iconst 1, 1) := by decide +kernel
theorem dL_isHealed_193 : decode cL_isHealed 193 = .ok (.goto 4, 3) := by decide +kernel
theorem dL_isHealed_196 : decode cL_isHealed 196 = .ok (.iconst 0, 1) := by decide +kernel
theorem dL_isHealed_197 : decode cL_isHealed 197 = .ok (.istore 8, 2) := by decide +kernel
theorem dL_isHealed_199 : decode cL_isHealed 199 = .ok (.iinc 9 1, 3) := by decide +kernel
theorem dL_isHealed_202 : decode cL_isHealed 202 = .ok (.goto (-56), 3) := by decide +kernel
theorem dL_isHealed_205 : decode cL_isHealed 205 = .ok (.iload 8, 2) := by decide +kernel
theorem dL_isHealed_207 : decode cL_isHealed 207 = .ok (.ifCond .eq 23, 3) := by decide +kernel
theorem dL_isHealed_210 : decode cL_isHealed 210 = .ok (.aload_n 0, 1) := by decide +kernel
theorem dL_isHealed_211 : decode cL_isHealed 211 = .ok (.invokevirtual 156, 3) := by decide +kernel
theorem dL_isHealed_214 : decode cL_isHealed 214 = .ok (.ifCond .lt 16, 3) := by decide +kernel
theorem dL_isHealed_217 : decode cL_isHealed 217 = .ok (.aload_n 0, 1) := by decide +kernel
theorem dL_isHealed_218 : decode cL_isHealed 218 = .ok (.invokestatic 146, 3) := by decide +kernel
theorem dL_isHealed_221 : decode cL_isHealed 221 = .ok (.lload_n 2, 1) := by decide +kernel
theorem dL_isHealed_222 : decode cL_isHealed 222 = .ok (.lcmp, 1) := by decide +kernel
theorem dL_isHealed_223 : decode cL_isHealed 223 = .ok (.ifCond .ne 7, 3) := by decide +kernel
theorem dL_isHealed_226 : decode cL_isHealed 226 = .ok (.iconst 1, 1) := by decide +kernel
theorem dL_isHealed_227 : decode cL_isHealed 227 = .ok (.goto 4, 3) := by decide +kernel
theorem dL_isHealed_230 : decode cL_isHealed 230 = .ok (.iconst 0, 1) := by decide +kernel
theorem dL_isHealed_231 : decode cL_isHealed 231 = .ok (.istore 8, 2) := by decide +kernel
theorem dL_isHealed_233 : decode cL_isHealed 233 = .ok (.iconst 0, 1) := by decide +kernel
theorem dL_isHealed_234 : decode cL_isHealed 234 = .ok (.istore 9, 2) := by decide +kernel
theorem dL_isHealed_236 : decode cL_isHealed 236 = .ok (.iload 9, 2) := by decide +kernel
theorem dL_isHealed_238 : decode cL_isHealed 238 = .ok (.iconst 4, 1) := by decide +kernel
theorem dL_isHealed_239 : decode cL_isHealed 239 = .ok (.if_icmp .ge 95, 3) := by decide +kernel
theorem dL_isHealed_242 : decode cL_isHealed 242 = .ok (.aload_n 0, 1) := by decide +kernel
