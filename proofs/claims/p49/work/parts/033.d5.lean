set_option maxRecDepth 20000 in
theorem ggX5_init_X3_init : GoodIn wsX5_init wsX3_init := goodIn_r _ [22, 23, 2, 3, 24, 18, 19, 25, 26, 27, 28, 29, 30, 31, 32, 33, 34, 35, 36, 37, 38, 39, 40, 41, 42, 43, 44, 45, 46, 47, 48, 49, 50, 51, 52, 90, 91, 92, 66, 67, 68, 69, 70, 71, 72, 73, 74, 75, 93, 94, 95] (by decide +kernel) (by decide +kernel)
set_option maxRecDepth 20000 in
theorem gX5_init_X3_init_n9 : GoodIn wsX5_init (wsX3_init) := ggX5_init_X3_init
set_option maxRecDepth 20000 in
theorem ggX5_init_X2_init : GoodIn wsX5_init wsX2_init := goodIn_r _ [55, 56, 2, 3, 57, 58, 5, 6, 21, 22, 23, 24, 18, 19, 25, 26, 27, 28, 29, 30, 31, 32, 33, 34, 35, 36, 37, 38, 39, 40, 41, 42, 43, 44, 45, 46, 47, 48, 49, 50, 51, 52, 81, 82, 83, 66, 67, 68, 69, 70, 71, 72, 73, 74, 75, 90, 91, 92, 93, 94, 95] (by decide +kernel) (by decide +kernel)
set_option maxRecDepth 20000 in
theorem gX5_init_X2_init : GoodIn wsX5_init (wsX2_init) := ggX5_init_X2_init
set_option maxRecDepth 20000 in
theorem ggX5_init_X4_init : GoodIn wsX5_init wsX4_init := goodIn_r _ [60, 61, 2, 3, 62, 63, 30, 64, 84, 85, 86, 87, 88, 89] (by decide +kernel) (by decide +kernel)
set_option maxRecDepth 20000 in
theorem gX5_init_X4_init_n28 : GoodIn wsX5_init (wsX4_init) := ggX5_init_X4_init
set_option maxRecDepth 20000 in
theorem ggX5_init_X0_init : GoodIn wsX5_init wsX0_init := goodIn_r _ [40, 41, 2, 3, 30, 42, 43, 44, 45, 46, 47, 48, 90, 91, 92] (by decide +kernel) (by decide +kernel)
set_option maxRecDepth 20000 in
theorem gX5_init_X0_init : GoodIn wsX5_init (wsX0_init) := ggX5_init_X0_init
theorem dX5_init_0 : decode cX5_init 0 = .ok (.aload_n 0, 1) := by decide +kernel
theorem dX5_init_1 : decode cX5_init 1 = .ok (.invokespecial 1, 3) := by decide +kernel
theorem dX5_init_4 : decode cX5_init 4 = .ok (.aload_n 0, 1) := by decide +kernel
theorem dX5_init_5 : decode cX5_init 5 = .ok (.new 7, 3) := by decide +kernel
theorem dX5_init_8 : decode cX5_init 8 = .ok (.dup, 1) := by decide +kernel
theorem dX5_init_9 : decode cX5_init 9 = .ok (.invokespecial 9, 3) := by decide +kernel
theorem dX5_init_12 : decode cX5_init 12 = .ok (.putfield 10, 3) := by decide +kernel
theorem dX5_init_15 : decode cX5_init 15 = .ok (.aload_n 0, 1) := by decide +kernel
theorem dX5_init_16 : decode cX5_init 16 = .ok (.new 7, 3) := by decide +kernel
theorem dX5_init_19 : decode cX5_init 19 = .ok (.dup, 1) := by decide +kernel
theorem dX5_init_20 : decode cX5_init 20 = .ok (.invokespecial 9, 3) := by decide +kernel
theorem dX5_init_23 : decode cX5_init 23 = .ok (.putfield 16, 3) := by decide +kernel
theorem dX5_init_26 : decode cX5_init 26 = .ok (.aload_n 0, 1) := by decide +kernel
theorem dX5_init_27 : decode cX5_init 27 = .ok (.new 19, 3) := by decide +kernel
theorem dX5_init_30 : decode cX5_init 30 = .ok (.dup, 1) := by decide +kernel
theorem dX5_init_31 : decode cX5_init 31 = .ok (.invokespecial 21, 3) := by decide +kernel
theorem dX5_init_34 : decode cX5_init 34 = .ok (.putfield 22, 3) := by decide +kernel
theorem dX5_init_37 : decode cX5_init 37 = .ok (.aload_n 0, 1) := by decide +kernel
theorem dX5_init_38 : decode cX5_init 38 = .ok (.new 26, 3) := by decide +kernel
theorem dX5_init_41 : decode cX5_init 41 = .ok (.dup, 1) := by decide +kernel
theorem dX5_init_42 : decode cX5_init 42 = .ok (.invokespecial 28, 3) := by decide +kernel
theorem dX5_init_45 : decode cX5_init 45 = .ok (.putfield 29, 3) := by decide +kernel
theorem dX5_init_48 : decode cX5_init 48 = .ok (.aload_n 0, 1) := by decide +kernel
theorem dX5_init_49 : decode cX5_init 49 = .ok (.new 33, 3) := by decide +kernel
theorem dX5_init_52 : decode cX5_init 52 = .ok (.dup, 1) := by decide +kernel
theorem dX5_init_53 : decode cX5_init 53 = .ok (.bipush 16, 2) := by decide +kernel
theorem dX5_init_55 : decode cX5_init 55 = .ok (.invokespecial 35, 3) := by decide +kernel
theorem dX5_init_58 : decode cX5_init 58 = .ok (.putfield 38, 3) := by decide +kernel
theorem dX5_init_61 : decode cX5_init 61 = .ok (.return_, 1) := by decide +kernel
set_option maxRecDepth 20000 in
theorem ggX5_inject_X2_hold : GoodIn wsX5_inject wsX2_hold := goodIn_r _ [7, 8, 9, 10, 11, 12, 13, 14, 15, 16, 17, 18, 19, 20, 21, 22, 23, 24, 25, 26, 27, 28, 29, 30, 31, 32, 33, 34, 35, 36, 37, 38, 39, 40, 41, 42, 43, 44, 45, 46, 47, 48, 49, 50, 77, 78, 79, 80, 81, 82, 83, 84, 85, 86, 87, 88, 89, 90, 91, 92, 93, 94, 95] (by decide +kernel) (by decide +kernel)
set_option maxRecDepth 20000 in
theorem gX5_inject_X2_hold : GoodIn wsX5_inject (wsV RX5 42 RX2 yX2_hold wsX2_hold) := goodIn_app (goodIn_of _ (by decide +kernel)) ggX5_inject_X2_hold
set_option maxRecDepth 20000 in
theorem ggX5_inject_X3_injectWord : GoodIn wsX5_inject wsX3_injectWord := goodIn_r _ [54, 28, 24, 16, 55, 56, 57, 58, 59, 60, 33, 61, 37, 38, 80, 81, 82, 83, 84, 85, 86, 87, 88, 89, 90, 91, 92] (by decide +kernel) (by decide +kernel)
set_option maxRecDepth 20000 in
theorem gX5_inject_X3_injectWord : GoodIn wsX5_inject (wsV RX5 46 RX3 yX3_injectWord wsX3_injectWord) := goodIn_app (goodIn_of _ (by decide +kernel)) ggX5_inject_X3_injectWord
set_option maxRecDepth 20000 in
theorem ggX5_inject_X2_settle : GoodIn wsX5_inject wsX2_settle := goodIn_r _ [65, 66, 56, 67, 68, 69, 70, 6, 71, 10, 9, 77, 78, 79] (by decide +kernel) (by decide +kernel)
set_option maxRecDepth 20000 in
theorem gX5_inject_X2_settle : GoodIn wsX5_inject (wsV RX5 50 RX2 yX2_settle wsX2_settle) := goodIn_app (goodIn_of _ (by decide +kernel)) ggX5_inject_X2_settle
theorem dX5_inject_0 : decode cX5_inject 0 = .ok (.aload_n 0, 1) := by decide +kernel
theorem dX5_inject_1 : decode cX5_inject 1 = .ok (.getfield 22, 3) := by decide +kernel
theorem dX5_inject_4 : decode cX5_inject 4 = .ok (.aload_n 0, 1) := by decide +kernel
theorem dX5_inject_5 : decode cX5_inject 5 = .ok (.getfield 10, 3) := by decide +kernel
theorem dX5_inject_8 : decode cX5_inject 8 = .ok (.invokevirtual 42, 3) := by decide +kernel
theorem dX5_inject_11 : decode cX5_inject 11 = .ok (.aload_n 0, 1) := by decide +kernel
theorem dX5_inject_12 : decode cX5_inject 12 = .ok (.getfield 22, 3) := by decide +kernel
theorem dX5_inject_15 : decode cX5_inject 15 = .ok (.aload_n 0, 1) := by decide +kernel
theorem dX5_inject_16 : decode cX5_inject 16 = .ok (.getfield 10, 3) := by decide +kernel
theorem dX5_inject_19 : decode cX5_inject 19 = .ok (.iload_n 1, 1) := by decide +kernel
theorem dX5_inject_20 : decode cX5_inject 20 = .ok (.invokevirtual 46, 3) := by decide +kernel
theorem dX5_inject_23 : decode cX5_inject 23 = .ok (.invokevirtual 50, 3) := by decide +kernel
theorem dX5_inject_26 : decode cX5_inject 26 = .ok (.ireturn, 1) := by decide +kernel
set_option maxRecDepth 20000 in
theorem ggX5_copyBlock_X2_hold : GoodIn wsX5_copyBlock wsX2_hold := goodIn_r _ [8, 9, 10, 11, 12, 13, 14, 15, 16, 17, 18, 19, 20, 21, 22, 23, 24, 25, 26, 27, 28, 29, 30, 31, 32, 33, 34, 35, 36, 37, 38, 39, 40, 41, 42, 43, 44, 45, 46, 47, 48, 49, 50, 51, 121, 122, 123, 124, 125, 126, 127, 128, 129, 130, 131, 132, 133, 134, 135, 136, 137, 138, 139] (by decide +kernel) (by decide +kernel)
set_option maxRecDepth 20000 in
theorem gX5_copyBlock_X2_hold : GoodIn wsX5_copyBlock (wsV RX5 42 RX2 yX2_hold wsX2_hold) := goodIn_app (goodIn_of _ (by decide +kernel)) ggX5_copyBlock_X2_hold
set_option maxRecDepth 20000 in
theorem ggX5_copyBlock_X3_copyWords : GoodIn wsX5_copyBlock wsX3_copyWords := goodIn_r _ [55, 17, 56, 57, 58, 59, 60, 61, 62, 63, 15, 64, 18, 30, 65, 66, 67, 68, 69, 70, 71, 34, 72, 38, 73, 74, 75, 76, 26, 77, 78, 79, 80, 36, 39, 81, 82, 83, 84, 85, 86, 87, 88, 89, 90, 91, 92, 93, 94, 95, 96, 97, 98, 99, 100, 101, 102, 103, 104, 105, 124, 125, 126, 127, 128, 129, 130, 131, 132, 133, 134, 135, 136] (by decide +kernel) (by decide +kernel)
set_option maxRecDepth 20000 in
theorem gX5_copyBlock_X3_copyWords : GoodIn wsX5_copyBlock (wsV RX5 53 RX3 yX3_copyWords wsX3_copyWords) := goodIn_app (goodIn_of _ (by decide +kernel)) ggX5_copyBlock_X3_copyWords
set_option maxRecDepth 20000 in
theorem ggX5_copyBlock_X2_settle : GoodIn wsX5_copyBlock wsX2_settle := goodIn_r _ [109, 110, 57, 111, 112, 113, 114, 7, 115, 11, 10, 121, 122, 123] (by decide +kernel) (by decide +kernel)
set_option maxRecDepth 20000 in
theorem gX5_copyBlock_X2_settle : GoodIn wsX5_copyBlock (wsV RX5 50 RX2 yX2_settle wsX2_settle) := goodIn_app (goodIn_of _ (by decide +kernel)) ggX5_copyBlock_X2_settle
theorem dX5_copyBlock_0 : decode cX5_copyBlock 0 = .ok (.aload_n 0, 1) := by decide +kernel
theorem dX5_copyBlock_1 : decode cX5_copyBlock 1 = .ok (.getfield 22, 3) := by decide +kernel
theorem dX5_copyBlock_4 : decode cX5_copyBlock 4 = .ok (.aload_n 0, 1) := by decide +kernel
theorem dX5_copyBlock_5 : decode cX5_copyBlock 5 = .ok (.getfield 10, 3) := by decide +kernel
theorem dX5_copyBlock_8 : decode cX5_copyBlock 8 = .ok (.invokevirtual 42, 3) := by decide +kernel
theorem dX5_copyBlock_11 : decode cX5_copyBlock 11 = .ok (.aload_n 0, 1) := by decide +kernel
theorem dX5_copyBlock_12 : decode cX5_copyBlock 12 = .ok (.getfield 22, 3) := by decide +kernel
theorem dX5_copyBlock_15 : decode cX5_copyBlock 15 = .ok (.aload_n 0, 1) := by decide +kernel
theorem dX5_copyBlock_16 : decode cX5_copyBlock 16 = .ok (.getfield 10, 3) := by decide +kernel
theorem dX5_copyBlock_19 : decode cX5_copyBlock 19 = .ok (.iload_n 1, 1) := by decide +kernel
theorem dX5_copyBlock_20 : decode cX5_copyBlock 20 = .ok (.iload_n 2, 1) := by decide +kernel
theorem dX5_copyBlock_21 : decode cX5_copyBlock 21 = .ok (.iload_n 3, 1) := by decide +kernel
theorem dX5_copyBlock_22 : decode cX5_copyBlock 22 = .ok (.aload_n 0, 1) := by decide +kernel
theorem dX5_copyBlock_23 : decode cX5_copyBlock 23 = .ok (.getfield 38, 3) := by decide +kernel
theorem dX5_copyBlock_26 : decode cX5_copyBlock 26 = .ok (.invokevirtual 53, 3) := by decide +kernel
theorem dX5_copyBlock_29 : decode cX5_copyBlock 29 = .ok (.invokevirtual 50, 3) := by decide +kernel
theorem dX5_copyBlock_32 : decode cX5_copyBlock 32 = .ok (.ireturn, 1) := by decide +kernel
set_option maxRecDepth 20000 in
theorem ggX5_fill_X2_hold : GoodIn wsX5_fill wsX2_hold := goodIn_r _ [7, 8, 9, 10, 11, 12, 13, 14, 15, 16, 17, 18, 19, 20, 21, 22, 23, 24, 25, 26, 27, 28, 29, 30, 31, 32, 33, 34, 35, 36, 37, 38, 39, 40, 41, 42, 43, 44, 45, 46, 47, 48, 49, 50, 106, 107, 108, 109, 110, 111, 112, 113, 114, 115, 116, 117, 118, 119, 120, 121, 122, 123, 124] (by decide +kernel) (by decide +kernel)
set_option maxRecDepth 20000 in
theorem gX5_fill_X2_hold : GoodIn wsX5_fill (wsV RX5 42 RX2 yX2_hold wsX2_hold) := goodIn_app (goodIn_of _ (by decide +kernel)) ggX5_fill_X2_hold
set_option maxRecDepth 20000 in
theorem ggX5_fill_X3_fillWords : GoodIn wsX5_fill wsX3_fillWords := goodIn_r _ [54, 16, 55, 56, 57, 58, 59, 60, 61, 62, 63, 64, 65, 33, 66, 67, 68, 69, 70, 37, 71, 72, 73, 74, 35, 75, 76, 77, 78, 38, 79, 80, 81, 14, 82, 17, 83, 84, 85, 86, 25, 87, 88, 89, 90, 109, 110, 111, 112, 113, 114, 115, 116, 117, 118, 119, 120, 121] (by decide +kernel) (by decide +kernel)
set_option maxRecDepth 20000 in
theorem gX5_fill_X3_fillWords : GoodIn wsX5_fill (wsV RX5 57 RX3 yX3_fillWords wsX3_fillWords) := goodIn_app (goodIn_of _ (by decide +kernel)) ggX5_fill_X3_fillWords
set_option maxRecDepth 20000 in
theorem ggX5_fill_X2_settle : GoodIn wsX5_fill wsX2_settle := goodIn_r _ [94, 95, 56, 96, 97, 98, 99, 6, 100, 10, 9, 106, 107, 108] (by decide +kernel) (by decide +kernel)
set_option maxRecDepth 20000 in
theorem gX5_fill_X2_settle : GoodIn wsX5_fill (wsV RX5 50 RX2 yX2_settle wsX2_settle) := goodIn_app (goodIn_of _ (by decide +kernel)) ggX5_fill_X2_settle
theorem dX5_fill_0 : decode cX5_fill 0 = .ok (.aload_n 0, 1) := by decide +kernel
theorem dX5_fill_1 : decode cX5_fill 1 = .ok (.getfield 22, 3) := by decide +kernel
theorem dX5_fill_4 : decode cX5_fill 4 = .ok (.aload_n 0, 1) := by decide +kernel
theorem dX5_fill_5 : decode cX5_fill 5 = .ok (.getfield 10, 3) := by decide +kernel
theorem dX5_fill_8 : decode cX5_fill 8 = .ok (.invokevirtual 42, 3) := by decide +kernel
theorem dX5_fill_11 : decode cX5_fill 11 = .ok (.aload_n 0, 1) := by decide +kernel
theorem dX5_fill_12 : decode cX5_fill 12 = .ok (.getfield 22, 3) := by decide +kernel
theorem dX5_fill_15 : decode cX5_fill 15 = .ok (.aload_n 0, 1) := by decide +kernel
theorem dX5_fill_16 : decode cX5_fill 16 = .ok (.getfield 10, 3) := by decide +kernel
theorem dX5_fill_19 : decode cX5_fill 19 = .ok (.iload_n 1, 1) := by decide +kernel
theorem dX5_fill_20 : decode cX5_fill 20 = .ok (.iload_n 2, 1) := by decide +kernel
theorem dX5_fill_21 : decode cX5_fill 21 = .ok (.iload_n 3, 1) := by decide +kernel
theorem dX5_fill_22 : decode cX5_fill 22 = .ok (.invokevirtual 57, 3) := by decide +kernel
theorem dX5_fill_25 : decode cX5_fill 25 = .ok (.invokevirtual 50, 3) := by decide +kernel
theorem dX5_fill_28 : decode cX5_fill 28 = .ok (.ireturn, 1) := by decide +kernel
set_option maxRecDepth 20000 in
theorem ggX5_setMirror_X2_hold : GoodIn wsX5_setMirror wsX2_hold := goodIn_r _ [7, 8, 9, 10, 11, 12, 13, 14, 15, 16, 17, 18, 19, 20, 21, 22, 23, 24, 25, 26, 27, 28, 29, 30, 31, 32, 33, 34, 35, 36, 37, 38, 39, 40, 41, 42, 43, 44, 45, 46, 47, 48, 49, 50, 93, 94, 95, 96, 97, 98, 99, 100, 101, 102, 103, 104, 105, 106, 107, 108, 109, 110, 111] (by decide +kernel) (by decide +kernel)
set_option maxRecDepth 20000 in
theorem gX5_setMirror_X2_hold : GoodIn wsX5_setMirror (wsV RX5 42 RX2 yX2_hold wsX2_hold) := goodIn_app (goodIn_of _ (by decide +kernel)) ggX5_setMirror_X2_hold
set_option maxRecDepth 20000 in
theorem ggX5_setMirror_X3_mirrorPage : GoodIn wsX5_setMirror wsX3_mirrorPage := goodIn_r _ [54, 25, 55, 56, 57, 58, 59, 60, 14, 61, 17, 16, 62, 63, 64, 65, 66, 67, 68, 33, 69, 35, 37, 38, 70, 71, 72, 73, 74, 75, 76, 77, 96, 97, 98, 99, 100, 101, 102, 103, 104, 105, 106, 107, 108] (by decide +kernel) (by decide +kernel)
set_option maxRecDepth 20000 in
theorem gX5_setMirror_X3_mirrorPage : GoodIn wsX5_setMirror (wsV RX5 61 RX3 yX3_mirrorPage wsX3_mirrorPage) := goodIn_app (goodIn_of _ (by decide +kernel)) ggX5_setMirror_X3_mirrorPage
set_option maxRecDepth 20000 in
theorem ggX5_setMirror_X2_settle : GoodIn wsX5_setMirror wsX2_settle := goodIn_r _ [81, 82, 56, 83, 84, 85, 86, 6, 87, 10, 9, 93, 94, 95] (by decide +kernel) (by decide +kernel)
set_option maxRecDepth 20000 in
theorem gX5_setMirror_X2_settle : GoodIn wsX5_setMirror (wsV RX5 50 RX2 yX2_settle wsX2_settle) := goodIn_app (goodIn_of _ (by decide +kernel)) ggX5_setMirror_X2_settle
theorem dX5_setMirror_0 : decode cX5_setMirror 0 = .ok (.aload_n 0, 1) := by decide +kernel
theorem dX5_setMirror_1 : decode cX5_setMirror 1 = .ok (.getfield 22, 3) := by decide +kernel
theorem dX5_setMirror_4 : decode cX5_setMirror 4 = .ok (.aload_n 0, 1) := by decide +kernel
theorem dX5_setMirror_5 : decode cX5_setMirror 5 = .ok (.getfield 10, 3) := by decide +kernel
theorem dX5_setMirror_8 : decode cX5_setMirror 8 = .ok (.invokevirtual 42, 3) := by decide +kernel
theorem dX5_setMirror_11 : decode cX5_setMirror 11 = .ok (.aload_n 0, 1) := by decide +kernel
theorem dX5_setMirror_12 : decode cX5_setMirror 12 = .ok (.getfield 22, 3) := by decide +kernel
theorem dX5_setMirror_15 : decode cX5_setMirror 15 = .ok (.aload_n 0, 1) := by decide +kernel
theorem dX5_setMirror_16 : decode cX5_setMirror 16 = .ok (.getfield 10, 3) := by decide +kernel
theorem dX5_setMirror_19 : decode cX5_setMirror 19 = .ok (.iload_n 1, 1) := by decide +kernel
theorem dX5_setMirror_20 : decode cX5_setMirror 20 = .ok (.iload_n 2, 1) := by decide +kernel
theorem dX5_setMirror_21 : decode cX5_setMirror 21 = .ok (.invokevirtual 61, 3) := by decide +kernel
theorem dX5_setMirror_24 : decode cX5_setMirror 24 = .ok (.invokevirtual 50, 3) := by decide +kernel
theorem dX5_setMirror_27 : decode cX5_setMirror 27 = .ok (.ireturn, 1) := by decide +kernel
set_option maxRecDepth 20000 in
theorem ggX5_scrub_X2_hold : GoodIn wsX5_scrub wsX2_hold := goodIn_r _ [7, 8, 9, 10, 11, 12, 13, 14, 15, 16, 17, 18, 19, 20, 21, 22, 23, 24, 25, 26, 27, 28, 29, 30, 31, 32, 33, 34, 35, 36, 37, 38, 39, 40, 41, 42, 43, 44, 45, 46, 47, 48, 49, 50, 97, 98, 99, 100, 101, 102, 103, 104, 105, 106, 107, 108, 109, 110, 111, 112, 113, 114, 115] (by decide +kernel) (by decide +kernel)
set_option maxRecDepth 20000 in
theorem gX5_scrub_X2_hold : GoodIn wsX5_scrub (wsV RX5 42 RX2 yX2_hold wsX2_hold) := goodIn_app (goodIn_of _ (by decide +kernel)) ggX5_scrub_X2_hold
set_option maxRecDepth 20000 in
theorem ggX5_scrub_X3_scrubPage : GoodIn wsX5_scrub wsX3_scrubPage := goodIn_r _ [54, 29, 55, 56, 57, 58, 59, 60, 14, 61, 16, 17, 62, 63, 64, 65, 66, 67, 68, 33, 69, 37, 70, 71, 72, 73, 25, 74, 75, 76, 77, 35, 38, 78, 79, 80, 81, 100, 101, 102, 103, 104, 105, 106, 107, 108, 109, 110, 111, 112] (by decide +kernel) (by decide +kernel)
set_option maxRecDepth 20000 in
theorem gX5_scrub_X3_scrubPage : GoodIn wsX5_scrub (wsV RX5 65 RX3 yX3_scrubPage wsX3_scrubPage) := goodIn_app (goodIn_of _ (by decide +kernel)) ggX5_scrub_X3_scrubPage
set_option maxRecDepth 20000 in
theorem ggX5_scrub_X2_settle : GoodIn wsX5_scrub wsX2_settle := goodIn_r _ [85, 86, 56, 87, 88, 89, 90, 6, 91, 10, 9, 97, 98, 99] (by decide +kernel) (by decide +kernel)
set_option maxRecDepth 20000 in
theorem gX5_scrub_X2_settle : GoodIn wsX5_scrub (wsV RX5 50 RX2 yX2_settle wsX2_settle) := goodIn_app (goodIn_of _ (by decide +kernel)) ggX5_scrub_X2_settle
theorem dX5_scrub_0 : decode cX5_scrub 0 = .ok (.aload_n 0, 1) := by decide +kernel
theorem dX5_scrub_1 : decode cX5_scrub 1 = .ok (.getfield 22, 3) := by decide +kernel
theorem dX5_scrub_4 : decode cX5_scrub 4 = .ok (.aload_n 0, 1) := by decide +kernel
theorem dX5_scrub_5 : decode cX5_scrub 5 = .ok (.getfield 10, 3) := by decide +kernel
theorem dX5_scrub_8 : decode cX5_scrub 8 = .ok (.invokevirtual 42, 3) := by decide +kernel
theorem dX5_scrub_11 : decode cX5_scrub 11 = .ok (.aload_n 0, 1) := by decide +kernel
theorem dX5_scrub_12 : decode cX5_scrub 12 = .ok (.getfield 22, 3) := by decide +kernel
theorem dX5_scrub_15 : decode cX5_scrub 15 = .ok (.aload_n 0, 1) := by decide +kernel
theorem dX5_scrub_16 : decode cX5_scrub 16 = .ok (.getfield 10, 3) := by decide +kernel
theorem dX5_scrub_19 : decode cX5_scrub 19 = .ok (.iload_n 1, 1) := by decide +kernel
theorem dX5_scrub_20 : decode cX5_scrub 20 = .ok (.invokevirtual 65, 3) := by decide +kernel
theorem dX5_scrub_23 : decode cX5_scrub 23 = .ok (.invokevirtual 50, 3) := by decide +kernel
theorem dX5_scrub_26 : decode cX5_scrub 26 = .ok (.ireturn, 1) := by decide +kernel
set_option maxRecDepth 20000 in
theorem ggX5_setMode_X2_hold : GoodIn wsX5_setMode wsX2_hold := goodIn_r _ [7, 8, 9, 10, 11, 12, 13, 14, 15, 16, 17, 18, 19, 20, 21, 22, 23, 24, 25, 26, 27, 28, 29, 30, 31, 32, 33, 34, 35, 36, 37, 38, 39, 40, 41, 42, 43, 44, 45, 46, 47, 48, 49, 50, 73, 74, 75, 76, 77, 78, 79, 80, 81, 82, 83, 84, 85, 86, 87, 88, 89, 90, 91] (by decide +kernel) (by decide +kernel)
set_option maxRecDepth 20000 in
theorem gX5_setMode_X2_hold : GoodIn wsX5_setMode (wsV RX5 42 RX2 yX2_hold wsX2_hold) := goodIn_app (goodIn_of _ (by decide +kernel)) ggX5_setMode_X2_hold
set_option maxRecDepth 20000 in
theorem ggX5_setMode_X3_changeMode : GoodIn wsX5_setMode wsX3_changeMode := goodIn_r _ [54, 19, 55, 56, 57, 76, 77, 78, 79, 80, 81, 82, 83, 84, 85] (by decide +kernel) (by decide +kernel)
set_option maxRecDepth 20000 in
theorem gX5_setMode_X3_changeMode : GoodIn wsX5_setMode (wsV RX5 68 RX3 yX3_changeMode wsX3_changeMode) := goodIn_app (goodIn_of _ (by decide +kernel)) ggX5_setMode_X3_changeMode
set_option maxRecDepth 20000 in
theorem ggX5_setMode_X2_settle : GoodIn wsX5_setMode wsX2_settle := goodIn_r _ [61, 62, 56, 63, 64, 65, 66, 6, 67, 10, 9, 73, 74, 75] (by decide +kernel) (by decide +kernel)
set_option maxRecDepth 20000 in
theorem gX5_setMode_X2_settle : GoodIn wsX5_setMode (wsV RX5 50 RX2 yX2_settle wsX2_settle) := goodIn_app (goodIn_of _ (by decide +kernel)) ggX5_setMode_X2_settle
theorem dX5_setMode_0 : decode cX5_setMode 0 = .ok (.aload_n 0, 1) := by decide +kernel
theorem dX5_setMode_1 : decode cX5_setMode 1 = .ok (.getfield 22, 3) := by decide +kernel
theorem dX5_setMode_4 : decode cX5_setMode 4 = .ok (.aload_n 0, 1) := by decide +kernel
theorem dX5_setMode_5 : decode cX5_setMode 5 = .ok (.getfield 10, 3) := by decide +kernel
theorem dX5_setMode_8 : decode cX5_setMode 8 = .ok (.invokevirtual 42, 3) := by decide +kernel
theorem dX5_setMode_11 : decode cX5_setMode 11 = .ok (.aload_n 0, 1) := by decide +kernel
theorem dX5_setMode_12 : decode cX5_setMode 12 = .ok (.getfield 22, 3) := by decide +kernel
theorem dX5_setMode_15 : decode cX5_setMode 15 = .ok (.aload_n 0, 1) := by decide +kernel
theorem dX5_setMode_16 : decode cX5_setMode 16 = .ok (.getfield 10, 3) := by decide +kernel
theorem dX5_setMode_19 : decode cX5_setMode 19 = .ok (.iload_n 1, 1) := by decide +kernel
theorem dX5_setMode_20 : decode cX5_setMode 20 = .ok (.iload_n 2, 1) := by decide +kernel
theorem dX5_setMode_21 : decode cX5_setMode 21 = .ok (.invokevirtual 68, 3) := by decide +kernel
theorem dX5_setMode_24 : decode cX5_setMode 24 = .ok (.invokevirtual 50, 3) := by decide +kernel
theorem dX5_setMode_27 : decode cX5_setMode 27 = .ok (.ireturn, 1) := by decide +kernel
set_option maxRecDepth 20000 in
theorem ggX5_restart_X2_hold : GoodIn wsX5_restart wsX2_hold := goodIn_r _ [7, 8, 9, 10, 11, 12, 13, 14, 15, 16, 17, 18, 19, 20, 21, 22, 23, 24, 25, 26, 27, 28, 29, 30, 31, 32, 33, 34, 35, 36, 37, 38, 39, 40, 41, 42, 43, 44, 45, 46, 47, 48, 49, 50, 91, 92, 93, 94, 95, 96, 97, 98, 99, 100, 101, 102, 103, 104, 105, 106, 107, 108, 109] (by decide +kernel) (by decide +kernel)
set_option maxRecDepth 20000 in
theorem gX5_restart_X2_hold : GoodIn wsX5_restart (wsV RX5 42 RX2 yX2_hold wsX2_hold) := goodIn_app (goodIn_of _ (by decide +kernel)) ggX5_restart_X2_hold
set_option maxRecDepth 20000 in
theorem ggX5_restart_X3_restartTask : GoodIn wsX5_restart wsX3_restartTask := goodIn_r _ [54, 18, 26, 55, 56, 57, 58, 59, 60, 61, 62, 33, 63, 64, 65, 66, 67, 37, 68, 69, 70, 71, 35, 72, 73, 74, 75, 38, 94, 95, 96, 97, 98, 99, 100, 101, 102, 103, 104, 105, 106] (by decide +kernel) (by decide +kernel)
set_option maxRecDepth 20000 in
theorem gX5_restart_X3_restartTask : GoodIn wsX5_restart (wsV RX5 72 RX3 yX3_restartTask wsX3_restartTask) := goodIn_app (goodIn_of _ (by decide +kernel)) ggX5_restart_X3_restartTask
set_option maxRecDepth 20000 in
theorem ggX5_restart_X2_settle : GoodIn wsX5_restart wsX2_settle := goodIn_r _ [79, 80, 56, 81, 82, 83, 84, 6, 85, 10, 9, 91, 92, 93] (by decide +kernel) (by decide +kernel)
set_option maxRecDepth 20000 in
theorem gX5_restart_X2_settle : GoodIn wsX5_restart (wsV RX5 50 RX2 yX2_settle wsX2_settle) := goodIn_app (goodIn_of _ (by decide +kernel)) ggX5_restart_X2_settle
theorem dX5_restart_0 : decode cX5_restart 0 = .ok (.aload_n 0, 1) := by decide +kernel
theorem dX5_restart_1 : decode cX5_restart 1 = .ok (.getfield 22, 3) := by decide +kernel
theorem dX5_restart_4 : decode cX5_restart 4 = .ok (.aload_n 0, 1) := by decide +kernel
theorem dX5_restart_5 : decode cX5_restart 5 = .ok (.getfield 10, 3) := by decide +kernel
theorem dX5_restart_8 : decode cX5_restart 8 = .ok (.invokevirtual 42, 3) := by decide +kernel
theorem dX5_restart_11 : decode cX5_restart 11 = .ok (.aload_n 0, 1) := by decide +kernel
theorem dX5_restart_12 : decode cX5_restart 12 = .ok (.getfield 22, 3) := by decide +kernel
theorem dX5_restart_15 : decode cX5_restart 15 = .ok (.aload_n 0, 1) := by decide +kernel
theorem dX5_restart_16 : decode cX5_restart 16 = .ok (.getfield 10, 3) := by decide +kernel
theorem dX5_restart_19 : decode cX5_restart 19 = .ok (.iload_n 1, 1) := by decide +kernel
theorem dX5_restart_20 : decode cX5_restart 20 = .ok (.invokevirtual 72, 3) := by decide +kernel
theorem dX5_restart_23 : decode cX5_restart 23 = .ok (.invokevirtual 50, 3) := by decide +kernel
theorem dX5_restart_26 : decode cX5_restart 26 = .ok (.ireturn, 1) := by decide +kernel
set_option maxRecDepth 20000 in
theorem ggX5_setRegister_X2_hold : GoodIn wsX5_setRegister wsX2_hold := goodIn_r _ [7, 8, 9, 10, 11, 12, 13, 14, 15, 16, 17, 18, 19, 20, 21, 22, 23, 24, 25, 26, 27, 28, 29, 30, 31, 32, 33, 34, 35, 36, 37, 38, 39, 40, 41, 42, 43, 44, 45, 46, 47, 48, 49, 50, 88, 89, 90, 91, 92, 93, 94, 95, 96, 97, 98, 99, 100, 101, 102, 103, 104, 105, 106] (by decide +kernel) (by decide +kernel)
set_option maxRecDepth 20000 in
theorem gX5_setRegister_X2_hold : GoodIn wsX5_setRegister (wsV RX5 42 RX2 yX2_hold wsX2_hold) := goodIn_app (goodIn_of _ (by decide +kernel)) ggX5_setRegister_X2_hold
set_option maxRecDepth 20000 in
theorem ggX5_setRegister_X3_giveRegister : GoodIn wsX5_setRegister wsX3_giveRegister := goodIn_r _ [54, 26, 18, 55, 56, 57, 58, 59, 60, 61, 62, 63, 64, 65, 66, 67, 33, 68, 35, 69, 70, 71, 72, 37, 38, 91, 92, 93, 94, 95, 96, 97, 98, 99, 100, 101, 102, 103] (by decide +kernel) (by decide +kernel)
set_option maxRecDepth 20000 in
theorem gX5_setRegister_X3_giveRegister : GoodIn wsX5_setRegister (wsV RX5 75 RX3 yX3_giveRegister wsX3_giveRegister) := goodIn_app (goodIn_of _ (by decide +kernel)) ggX5_setRegister_X3_giveRegister
set_option maxRecDepth 20000 in
theorem ggX5_setRegister_X2_settle : GoodIn wsX5_setRegister wsX2_settle := goodIn_r _ [76, 77, 56, 78, 79, 80, 81, 6, 82, 10, 9, 88, 89, 90] (by decide +kernel) (by decide +kernel)
set_option maxRecDepth 20000 in
theorem gX5_setRegister_X2_settle : GoodIn wsX5_setRegister (wsV RX5 50 RX2 yX2_settle wsX2_settle) := goodIn_app (goodIn_of _ (by decide +kernel)) ggX5_setRegister_X2_settle
theorem dX5_setRegister_0 : decode cX5_setRegister 0 = .ok (.aload_n 0, 1) := by decide +kernel
theorem dX5_setRegister_1 : decode cX5_setRegister 1 = .ok (.getfield 22, 3) := by decide +kernel
theorem dX5_setRegister_4 : decode cX5_setRegister 4 = .ok (.aload_n 0, 1) := by decide +kernel
theorem dX5_setRegister_5 : decode cX5_setRegister 5 = .ok (.getfield 10, 3) := by decide +kernel
theorem dX5_setRegister_8 : decode cX5_setRegister 8 = .ok (.invokevirtual 42, 3) := by decide +kernel
theorem dX5_setRegister_11 : decode cX5_setRegister 11 = .ok (.aload_n 0, 1) := by decide +kernel
theorem dX5_setRegister_12 : decode cX5_setRegister 12 = .ok (.getfield 22, 3) := by decide +kernel
theorem dX5_setRegister_15 : decode cX5_setRegister 15 = .ok (.aload_n 0, 1) := by decide +kernel
theorem dX5_setRegister_16 : decode cX5_setRegister 16 = .ok (.getfield 10, 3) := by decide +kernel
theorem dX5_setRegister_19 : decode cX5_setRegister 19 = .ok (.iload_n 1, 1) := by decide +kernel
theorem dX5_setRegister_20 : decode cX5_setRegister 20 = .ok (.iload_n 2, 1) := by decide +kernel
theorem dX5_setRegister_21 : decode cX5_setRegister 21 = .ok (.iload_n 3, 1) := by decide +kernel
theorem dX5_setRegister_22 : decode cX5_setRegister 22 = .ok (.invokevirtual 75, 3) := by decide +kernel
theorem dX5_setRegister_25 : decode cX5_setRegister 25 = .ok (.invokevirtual 50, 3) := by decide +kernel
theorem dX5_setRegister_28 : decode cX5_setRegister 28 = .ok (.ireturn, 1) := by decide +kernel
set_option maxRecDepth 20000 in
theorem ggX5_load_X2_hold : GoodIn wsX5_load wsX2_hold := goodIn_r _ [7, 8, 9, 10, 11, 12, 13, 14, 15, 16, 17, 18, 19, 20, 21, 22, 23, 24, 25, 26, 27, 28, 29, 30, 31, 32, 33, 34, 35, 36, 37, 38, 39, 40, 41, 42, 43, 44, 45, 46, 47, 48, 49, 50, 116, 117, 118, 119, 120, 121, 122, 123, 124, 125, 126, 127, 128, 129, 130, 131, 132, 133, 134] (by decide +kernel) (by decide +kernel)
set_option maxRecDepth 20000 in
theorem gX5_load_X2_hold : GoodIn wsX5_load (wsV RX5 42 RX2 yX2_hold wsX2_hold) := goodIn_app (goodIn_of _ (by decide +kernel)) ggX5_load_X2_hold
set_option maxRecDepth 20000 in
theorem ggX5_load_X3_loadWord : GoodIn wsX5_load wsX3_loadWord := goodIn_r _ [54, 26, 55, 56, 57, 58, 59, 60, 61, 62, 63, 64, 65, 66, 14, 67, 18, 16, 68, 69, 70, 71, 17, 29, 72, 73, 74, 75, 76, 77, 78, 33, 79, 37, 80, 81, 82, 83, 25, 84, 85, 86, 87, 35, 38, 88, 89, 90, 91, 92, 93, 94, 95, 96, 97, 98, 99, 100, 119, 120, 121, 122, 123, 124, 125, 126, 127, 128, 129, 130, 131] (by decide +kernel) (by decide +kernel)
set_option maxRecDepth 20000 in
theorem gX5_load_X3_loadWord : GoodIn wsX5_load (wsV RX5 78 RX3 yX3_loadWord wsX3_loadWord) := goodIn_app (goodIn_of _ (by decide +kernel)) ggX5_load_X3_loadWord
set_option maxRecDepth 20000 in
theorem ggX5_load_X2_settle : GoodIn wsX5_load wsX2_settle := goodIn_r _ [104, 105, 56, 106, 107, 108, 109, 6, 110, 10, 9, 116, 117, 118] (by decide +kernel) (by decide +kernel)
set_option maxRecDepth 20000 in
theorem gX5_load_X2_settle : GoodIn wsX5_load (wsV RX5 50 RX2 yX2_settle wsX2_settle) := goodIn_app (goodIn_of _ (by decide +kernel)) ggX5_load_X2_settle
theorem dX5_load_0 : decode cX5_load 0 = .ok (.aload_n 0, 1) := by decide +kernel
theorem dX5_load_1 : decode cX5_load 1 = .ok (.getfield 22, 3) := by decide +kernel
theorem dX5_load_4 : decode cX5_load 4 = .ok (.aload_n 0, 1) := by decide +kernel
theorem dX5_load_5 : decode cX5_load 5 = .ok (.getfield 10, 3) := by decide +kernel
theorem dX5_load_8 : decode cX5_load 8 = .ok (.invokevirtual 42, 3) := by decide +kernel
theorem dX5_load_11 : decode cX5_load 11 = .ok (.aload_n 0, 1) := by decide +kernel
theorem dX5_load_12 : decode cX5_load 12 = .ok (.getfield 22, 3) := by decide +kernel
theorem dX5_load_15 : decode cX5_load 15 = .ok (.aload_n 0, 1) := by decide +kernel
theorem dX5_load_16 : decode cX5_load 16 = .ok (.getfield 10, 3) := by decide +kernel
theorem dX5_load_19 : decode cX5_load 19 = .ok (.iload_n 1, 1) := by decide +kernel
theorem dX5_load_20 : decode cX5_load 20 = .ok (.iload_n 2, 1) := by decide +kernel
theorem dX5_load_21 : decode cX5_load 21 = .ok (.iload_n 3, 1) := by decide +kernel
theorem dX5_load_22 : decode cX5_load 22 = .ok (.invokevirtual 78, 3) := by decide +kernel
theorem dX5_load_25 : decode cX5_load 25 = .ok (.invokevirtual 50, 3) := by decide +kernel
theorem dX5_load_28 : decode cX5_load 28 = .ok (.ireturn, 1) := by decide +kernel
set_option maxRecDepth 20000 in
theorem ggX5_loadByte_X2_hold : GoodIn wsX5_loadByte wsX2_hold := goodIn_r _ [7, 8, 9, 10, 11, 12, 13, 14, 15, 16, 17, 18, 19, 20, 21, 22, 23, 24, 25, 26, 27, 28, 29, 30, 31, 32, 33, 34, 35, 36, 37, 38, 39, 40, 41, 42, 43, 44, 45, 46, 47, 48, 49, 50, 120, 121, 122, 123, 124, 125, 126, 127, 128, 129, 130, 131, 132, 133, 134, 135, 136, 137, 138] (by decide +kernel) (by decide +kernel)
set_option maxRecDepth 20000 in
theorem gX5_loadByte_X2_hold : GoodIn wsX5_loadByte (wsV RX5 42 RX2 yX2_hold wsX2_hold) := goodIn_app (goodIn_of _ (by decide +kernel)) ggX5_loadByte_X2_hold
set_option maxRecDepth 20000 in
theorem ggX5_loadByte_X3_loadPart : GoodIn wsX5_loadByte wsX3_loadPart := goodIn_r _ [54, 26, 18, 55, 56, 57, 58, 59, 60, 61, 62, 63, 64, 65, 66, 67, 68, 14, 69, 16, 70, 71, 72, 73, 17, 29, 74, 75, 76, 77, 78, 79, 80, 33, 81, 37, 82, 83, 84, 85, 25, 86, 87, 88, 89, 35, 38, 90, 91, 92, 93, 94, 95, 96, 97, 98, 99, 100, 101, 102, 103, 104, 123, 124, 125, 126, 127, 128, 129, 130, 131, 132, 133, 134, 135] (by decide +kernel) (by decide +kernel)
set_option maxRecDepth 20000 in
theorem gX5_loadByte_X3_loadPart : GoodIn wsX5_loadByte (wsV RX5 81 RX3 yX3_loadPart wsX3_loadPart) := goodIn_app (goodIn_of _ (by decide +kernel)) ggX5_loadByte_X3_loadPart
set_option maxRecDepth 20000 in
theorem ggX5_loadByte_X2_settle : GoodIn wsX5_loadByte wsX2_settle := goodIn_r _ [108, 109, 56, 110, 111, 112, 113, 6, 114, 10, 9, 120, 121, 122] (by decide +kernel) (by decide +kernel)
set_option maxRecDepth 20000 in
theorem gX5_loadByte_X2_settle : GoodIn wsX5_loadByte (wsV RX5 50 RX2 yX2_settle wsX2_settle) := goodIn_app (goodIn_of _ (by decide +kernel)) ggX5_loadByte_X2_settle
theorem dX5_loadByte_0 : decode cX5_loadByte 0 = .ok (.aload_n 0, 1) := by decide +kernel
theorem dX5_loadByte_1 : decode cX5_loadByte 1 = .ok (.getfield 22, 3) := by decide +kernel
theorem dX5_loadByte_4 : decode cX5_loadByte 4 = .ok (.aload_n 0, 1) := by decide +kernel
theorem dX5_loadByte_5 : decode cX5_loadByte 5 = .ok (.getfield 10, 3) := by decide +kernel
theorem dX5_loadByte_8 : decode cX5_loadByte 8 = .ok (.invokevirtual 42, 3) := by decide +kernel
theorem dX5_loadByte_11 : decode cX5_loadByte 11 = .ok (.aload_n 0, 1) := by decide +kernel
theorem dX5_loadByte_12 : decode cX5_loadByte 12 = .ok (.getfield 22, 3) := by decide +kernel
theorem dX5_loadByte_15 : decode cX5_loadByte 15 = .ok (.aload_n 0, 1) := by decide +kernel
theorem dX5_loadByte_16 : decode cX5_loadByte 16 = .ok (.getfield 10, 3) := by decide +kernel
theorem dX5_loadByte_19 : decode cX5_loadByte 19 = .ok (.iload_n 1, 1) := by decide +kernel
theorem dX5_loadByte_20 : decode cX5_loadByte 20 = .ok (.iload_n 2, 1) := by decide +kernel
theorem dX5_loadByte_21 : decode cX5_loadByte 21 = .ok (.iload_n 3, 1) := by decide +kernel
theorem dX5_loadByte_22 : decode cX5_loadByte 22 = .ok (.iload 4, 2) := by decide +kernel
theorem dX5_loadByte_24 : decode cX5_loadByte 24 = .ok (.invokevirtual 81, 3) := by decide +kernel
theorem dX5_loadByte_27 : decode cX5_loadByte 27 = .ok (.invokevirtual 50, 3) := by decide +kernel
theorem dX5_loadByte_30 : decode cX5_loadByte 30 = .ok (.ireturn, 1) := by decide +kernel
set_option maxRecDepth 20000 in
theorem ggX5_store_X2_hold : GoodIn wsX5_store wsX2_hold := goodIn_r _ [7, 8, 9, 10, 11, 12, 13, 14, 15, 16, 17, 18, 19, 20, 21, 22, 23, 24, 25, 26, 27, 28, 29, 30, 31, 32, 33, 34, 35, 36, 37, 38, 39, 40, 41, 42, 43, 44, 45, 46, 47, 48, 49, 50, 112, 113, 114, 115, 116, 117, 118, 119, 120, 121, 122, 123, 124, 125, 126, 127, 128, 129, 130] (by decide +kernel) (by decide +kernel)
set_option maxRecDepth 20000 in
theorem gX5_store_X2_hold : GoodIn wsX5_store (wsV RX5 42 RX2 yX2_hold wsX2_hold) := goodIn_app (goodIn_of _ (by decide +kernel)) ggX5_store_X2_hold
set_option maxRecDepth 20000 in
theorem ggX5_store_X3_storeWord : GoodIn wsX5_store wsX3_storeWord := goodIn_r _ [54, 26, 18, 16, 55, 56, 57, 58, 59, 60, 61, 62, 63, 64, 65, 66, 14, 67, 68, 69, 70, 33, 71, 37, 38, 72, 73, 74, 75, 76, 77, 78, 79, 80, 81, 82, 83, 84, 85, 86, 87, 17, 88, 89, 90, 91, 25, 92, 93, 94, 95, 35, 96, 115, 116, 117, 118, 119, 120, 121, 122, 123, 124, 125, 126, 127] (by decide +kernel) (by decide +kernel)
set_option maxRecDepth 20000 in
theorem gX5_store_X3_storeWord : GoodIn wsX5_store (wsV RX5 85 RX3 yX3_storeWord wsX3_storeWord) := goodIn_app (goodIn_of _ (by decide +kernel)) ggX5_store_X3_storeWord
set_option maxRecDepth 20000 in
theorem ggX5_store_X2_settle : GoodIn wsX5_store wsX2_settle := goodIn_r _ [100, 101, 56, 102, 103, 104, 105, 6, 106, 10, 9, 112, 113, 114] (by decide +kernel) (by decide +kernel)
set_option maxRecDepth 20000 in
theorem gX5_store_X2_settle : GoodIn wsX5_store (wsV RX5 50 RX2 yX2_settle wsX2_settle) := goodIn_app (goodIn_of _ (by decide +kernel)) ggX5_store_X2_settle
theorem dX5_store_0 : decode cX5_store 0 = .ok (.aload_n 0, 1) := by decide +kernel
theorem dX5_store_1 : decode cX5_store 1 = .ok (.getfield 22, 3) := by decide +kernel
theorem dX5_store_4 : decode cX5_store 4 = .ok (.aload_n 0, 1) := by decide +kernel
theorem dX5_store_5 : decode cX5_store 5 = .ok (.getfield 10, 3) := by decide +kernel
theorem dX5_store_8 : decode cX5_store 8 = .ok (.invokevirtual 42, 3) := by decide +kernel
theorem dX5_store_11 : decode cX5_store 11 = .ok (.aload_n 0, 1) := by decide +kernel
theorem dX5_store_12 : decode cX5_store 12 = .ok (.getfield 22, 3) := by decide +kernel
theorem dX5_store_15 : decode cX5_store 15 = .ok (.aload_n 0, 1) := by decide +kernel
theorem dX5_store_16 : decode cX5_store 16 = .ok (.getfield 10, 3) := by decide +kernel
theorem dX5_store_19 : decode cX5_store 19 = .ok (.iload_n 1, 1) := by decide +kernel
theorem dX5_store_20 : decode cX5_store 20 = .ok (.iload_n 2, 1) := by decide +kernel
theorem dX5_store_21 : decode cX5_store 21 = .ok (.iload_n 3, 1) := by decide +kernel
theorem dX5_store_22 : decode cX5_store 22 = .ok (.invokevirtual 85, 3) := by decide +kernel
theorem dX5_store_25 : decode cX5_store 25 = .ok (.invokevirtual 50, 3) := by decide +kernel
theorem dX5_store_28 : decode cX5_store 28 = .ok (.ireturn, 1) := by decide +kernel
set_option maxRecDepth 20000 in
theorem ggX5_storeByte_X2_hold : GoodIn wsX5_storeByte wsX2_hold := goodIn_r _ [7, 8, 9, 10, 11, 12, 13, 14, 15, 16, 17, 18, 19, 20, 21, 22, 23, 24, 25, 26, 27, 28, 29, 30, 31, 32, 33, 34, 35, 36, 37, 38, 39, 40, 41, 42, 43, 44, 45, 46, 47, 48, 49, 50, 120, 121, 122, 123, 124, 125, 126, 127, 128, 129, 130, 131, 132, 133, 134, 135, 136, 137, 138] (by decide +kernel) (by decide +kernel)
set_option maxRecDepth 20000 in
theorem gX5_storeByte_X2_hold : GoodIn wsX5_storeByte (wsV RX5 42 RX2 yX2_hold wsX2_hold) := goodIn_app (goodIn_of _ (by decide +kernel)) ggX5_storeByte_X2_hold
set_option maxRecDepth 20000 in
theorem ggX5_storeByte_X3_storePart : GoodIn wsX5_storeByte wsX3_storePart := goodIn_r _ [54, 26, 18, 16, 55, 56, 57, 58, 59, 60, 61, 62, 63, 64, 65, 66, 14, 67, 17, 29, 68, 69, 70, 71, 72, 73, 74, 33, 75, 37, 76, 77, 78, 79, 25, 80, 81, 82, 83, 35, 38, 84, 85, 86, 87, 88, 89, 90, 91, 92, 93, 94, 95, 96, 97, 98, 99, 100, 101, 102, 103, 104, 123, 124, 125, 126, 127, 128, 129, 130, 131, 132, 133, 134, 135] (by decide +kernel) (by decide +kernel)
set_option maxRecDepth 20000 in
theorem gX5_storeByte_X3_storePart : GoodIn wsX5_storeByte (wsV RX5 88 RX3 yX3_storePart wsX3_storePart) := goodIn_app (goodIn_of _ (by decide +kernel)) ggX5_storeByte_X3_storePart
set_option maxRecDepth 20000 in
theorem ggX5_storeByte_X2_settle : GoodIn wsX5_storeByte wsX2_settle := goodIn_r _ [108, 109, 56, 110, 111, 112, 113, 6, 114, 10, 9, 120, 121, 122] (by decide +kernel) (by decide +kernel)
set_option maxRecDepth 20000 in
theorem gX5_storeByte_X2_settle : GoodIn wsX5_storeByte (wsV RX5 50 RX2 yX2_settle wsX2_settle) := goodIn_app (goodIn_of _ (by decide +kernel)) ggX5_storeByte_X2_settle
theorem dX5_storeByte_0 : decode cX5_storeByte 0 = .ok (.aload_n 0, 1) := by decide +kernel
theorem dX5_storeByte_1 : decode cX5_storeByte 1 = .ok (.getfield 22, 3) := by decide +kernel
theorem dX5_storeByte_4 : decode cX5_storeByte 4 = .ok (.aload_n 0, 1) := by decide +kernel
theorem dX5_storeByte_5 : decode cX5_storeByte 5 = .ok (.getfield 10, 3) := by decide +kernel
theorem dX5_storeByte_8 : decode cX5_storeByte 8 = .ok (.invokevirtual 42, 3) := by decide +kernel
theorem dX5_storeByte_11 : decode cX5_storeByte 11 = .ok (.aload_n 0, 1) := by decide +kernel
theorem dX5_storeByte_12 : decode cX5_storeByte 12 = .ok (.getfield 22, 3) := by decide +kernel
theorem dX5_storeByte_15 : decode cX5_storeByte 15 = .ok (.aload_n 0, 1) := by decide +kernel
theorem dX5_storeByte_16 : decode cX5_storeByte 16 = .ok (.getfield 10, 3) := by decide +kernel
theorem dX5_storeByte_19 : decode cX5_storeByte 19 = .ok (.iload_n 1, 1) := by decide +kernel
theorem dX5_storeByte_20 : decode cX5_storeByte 20 = .ok (.iload_n 2, 1) := by decide +kernel
theorem dX5_storeByte_21 : decode cX5_storeByte 21 = .ok (.iload_n 3, 1) := by decide +kernel
theorem dX5_storeByte_22 : decode cX5_storeByte 22 = .ok (.iload 4, 2) := by decide +kernel
theorem dX5_storeByte_24 : decode cX5_storeByte 24 = .ok (.invokevirtual 88, 3) := by decide +kernel
theorem dX5_storeByte_27 : decode cX5_storeByte 27 = .ok (.invokevirtual 50, 3) := by decide +kernel
theorem dX5_storeByte_30 : decode cX5_storeByte 30 = .ok (.ireturn, 1) := by decide +kernel
set_option maxRecDepth 20000 in
theorem ggX5_move_X2_hold : GoodIn wsX5_move wsX2_hold := goodIn_r _ [7, 8, 9, 10, 11, 12, 13, 14, 15, 16, 17, 18, 19, 20, 21, 22, 23, 24, 25, 26, 27, 28, 29, 30, 31, 32, 33, 34, 35, 36, 37, 38, 39, 40, 41, 42, 43, 44, 45, 46, 47, 48, 49, 50, 93, 94, 95, 96, 97, 98, 99, 100, 101, 102, 103, 104, 105, 106, 107, 108, 109, 110, 111] (by decide +kernel) (by decide +kernel)
set_option maxRecDepth 20000 in
theorem gX5_move_X2_hold : GoodIn wsX5_move (wsV RX5 42 RX2 yX2_hold wsX2_hold) := goodIn_app (goodIn_of _ (by decide +kernel)) ggX5_move_X2_hold
set_option maxRecDepth 20000 in
theorem ggX5_move_X3_moveRegister : GoodIn wsX5_move wsX3_moveRegister := goodIn_r _ [54, 26, 18, 55, 56, 57, 58, 59, 60, 61, 62, 63, 64, 33, 65, 37, 38, 66, 67, 68, 69, 70, 71, 72, 73, 74, 75, 76, 77, 96, 97, 98, 99, 100, 101, 102, 103, 104, 105, 106, 107, 108] (by decide +kernel) (by decide +kernel)
set_option maxRecDepth 20000 in
theorem gX5_move_X3_moveRegister : GoodIn wsX5_move (wsV RX5 91 RX3 yX3_moveRegister wsX3_moveRegister) := goodIn_app (goodIn_of _ (by decide +kernel)) ggX5_move_X3_moveRegister
set_option maxRecDepth 20000 in
theorem ggX5_move_X2_settle : GoodIn wsX5_move wsX2_settle := goodIn_r _ [81, 82, 56, 83, 84, 85, 86, 6, 87, 10, 9, 93, 94, 95] (by decide +kernel) (by decide +kernel)
set_option maxRecDepth 20000 in
theorem gX5_move_X2_settle : GoodIn wsX5_move (wsV RX5 50 RX2 yX2_settle wsX2_settle) := goodIn_app (goodIn_of _ (by decide +kernel)) ggX5_move_X2_settle
theorem dX5_move_0 : decode cX5_move 0 = .ok (.aload_n 0, 1) := by decide +kernel
theorem dX5_move_1 : decode cX5_move 1 = .ok (.getfield 22, 3) := by decide +kernel
theorem dX5_move_4 : decode cX5_move 4 = .ok (.aload_n 0, 1) := by decide +kernel
theorem dX5_move_5 : decode cX5_move 5 = .ok (.getfield 10, 3) := by decide +kernel
theorem dX5_move_8 : decode cX5_move 8 = .ok (.invokevirtual 42, 3) := by decide +kernel
theorem dX5_move_11 : decode cX5_move 11 = .ok (.aload_n 0, 1) := by decide +kernel
theorem dX5_move_12 : decode cX5_move 12 = .ok (.getfield 22, 3) := by decide +kernel
theorem dX5_move_15 : decode cX5_move 15 = .ok (.aload_n 0, 1) := by decide +kernel
theorem dX5_move_16 : decode cX5_move 16 = .ok (.getfield 10, 3) := by decide +kernel
theorem dX5_move_19 : decode cX5_move 19 = .ok (.iload_n 1, 1) := by decide +kernel
theorem dX5_move_20 : decode cX5_move 20 = .ok (.iload_n 2, 1) := by decide +kernel
theorem dX5_move_21 : decode cX5_move 21 = .ok (.iload_n 3, 1) := by decide +kernel
theorem dX5_move_22 : decode cX5_move 22 = .ok (.invokevirtual 91, 3) := by decide +kernel
theorem dX5_move_25 : decode cX5_move 25 = .ok (.invokevirtual 50, 3) := by decide +kernel
theorem dX5_move_28 : decode cX5_move 28 = .ok (.ireturn, 1) := by decide +kernel
set_option maxRecDepth 20000 in
theorem ggX5_compute_X2_hold : GoodIn wsX5_compute wsX2_hold := goodIn_r _ [7, 8, 9, 10, 11, 12, 13, 14, 15, 16, 17, 18, 19, 20, 21, 22, 23, 24, 25, 26, 27, 28, 29, 30, 31, 32, 33, 34, 35, 36, 37, 38, 39, 40, 41, 42, 43, 44, 45, 46, 47, 48, 49, 50, 109, 110, 111, 112, 113, 114, 115, 116, 117, 118, 119, 120, 121, 122, 123, 124, 125, 126, 127] (by decide +kernel) (by decide +kernel)
set_option maxRecDepth 20000 in
theorem gX5_compute_X2_hold : GoodIn wsX5_compute (wsV RX5 42 RX2 yX2_hold wsX2_hold) := goodIn_app (goodIn_of _ (by decide +kernel)) ggX5_compute_X2_hold
set_option maxRecDepth 20000 in
theorem ggX5_compute_X3_computeRegister : GoodIn wsX5_compute wsX3_computeRegister := goodIn_r _ [54, 26, 18, 55, 56, 57, 58, 59, 60, 61, 62, 14, 63, 27, 19, 64, 65, 66, 67, 68, 33, 69, 37, 70, 71, 72, 45, 73, 47, 48, 21, 22, 23, 49, 74, 75, 76, 77, 50, 78, 79, 80, 81, 82, 83, 84, 85, 35, 86, 87, 88, 89, 38, 90, 91, 92, 93, 112, 113, 114, 115, 116, 117, 118, 119, 120, 121, 122, 123, 124, 125, 126, 127] (by decide +kernel) (by decide +kernel)
set_option maxRecDepth 20000 in
theorem gX5_compute_X3_computeRegister : GoodIn wsX5_compute (wsV RX5 94 RX3 yX3_computeRegister wsX3_computeRegister) := goodIn_app (goodIn_of _ (by decide +kernel)) ggX5_compute_X3_computeRegister
set_option maxRecDepth 20000 in
theorem ggX5_compute_X2_settle : GoodIn wsX5_compute wsX2_settle := goodIn_r _ [97, 98, 56, 99, 100, 101, 102, 6, 103, 10, 9, 109, 110, 111] (by decide +kernel) (by decide +kernel)
set_option maxRecDepth 20000 in
theorem gX5_compute_X2_settle : GoodIn wsX5_compute (wsV RX5 50 RX2 yX2_settle wsX2_settle) := goodIn_app (goodIn_of _ (by decide +kernel)) ggX5_compute_X2_settle
theorem dX5_compute_0 : decode cX5_compute 0 = .ok (.aload_n 0, 1) := by decide +kernel
theorem dX5_compute_1 : decode cX5_compute 1 = .ok (.getfield 22, 3) := by decide +kernel
theorem dX5_compute_4 : decode cX5_compute 4 = .ok (.aload_n 0, 1) := by decide +kernel
theorem dX5_compute_5 : decode cX5_compute 5 = .ok (.getfield 10, 3) := by decide +kernel
theorem dX5_compute_8 : decode cX5_compute 8 = .ok (.invokevirtual 42, 3) := by decide +kernel
theorem dX5_compute_11 : decode cX5_compute 11 = .ok (.aload_n 0, 1) := by decide +kernel
theorem dX5_compute_12 : decode cX5_compute 12 = .ok (.getfield 22, 3) := by decide +kernel
theorem dX5_compute_15 : decode cX5_compute 15 = .ok (.aload_n 0, 1) := by decide +kernel
theorem dX5_compute_16 : decode cX5_compute 16 = .ok (.getfield 10, 3) := by decide +kernel
theorem dX5_compute_19 : decode cX5_compute 19 = .ok (.iload_n 1, 1) := by decide +kernel
theorem dX5_compute_20 : decode cX5_compute 20 = .ok (.iload_n 2, 1) := by decide +kernel
theorem dX5_compute_21 : decode cX5_compute 21 = .ok (.iload_n 3, 1) := by decide +kernel
theorem dX5_compute_22 : decode cX5_compute 22 = .ok (.iload 4, 2) := by decide +kernel
theorem dX5_compute_24 : decode cX5_compute 24 = .ok (.iload 5, 2) := by decide +kernel
theorem dX5_compute_26 : decode cX5_compute 26 = .ok (.invokevirtual 94, 3) := by decide +kernel
theorem dX5_compute_29 : decode cX5_compute 29 = .ok (.invokevirtual 50, 3) := by decide +kernel
theorem dX5_compute_32 : decode cX5_compute 32 = .ok (.ireturn, 1) := by decide +kernel
set_option maxRecDepth 20000 in
theorem ggX5_loadAt_X2_hold : GoodIn wsX5_loadAt wsX2_hold := goodIn_r _ [7, 8, 9, 10, 11, 12, 13, 14, 15, 16, 17, 18, 19, 20, 21, 22, 23, 24, 25, 26, 27, 28, 29, 30, 31, 32, 33, 34, 35, 36, 37, 38, 39, 40, 41, 42, 43, 44, 45, 46, 47, 48, 49, 50, 135, 136, 137, 138, 139, 140, 141, 142, 143, 144, 145, 146, 147, 148, 149, 150, 151, 152, 153] (by decide +kernel) (by decide +kernel)
set_option maxRecDepth 20000 in
theorem gX5_loadAt_X2_hold : GoodIn wsX5_loadAt (wsV RX5 42 RX2 yX2_hold wsX2_hold) := goodIn_app (goodIn_of _ (by decide +kernel)) ggX5_loadAt_X2_hold
set_option maxRecDepth 20000 in
theorem ggX5_loadAt_X3_loadAddressed : GoodIn wsX5_loadAt wsX3_loadAddressed := goodIn_r _ [54, 26, 18, 55, 56, 57, 58, 59, 60, 61, 62, 14, 63, 27, 19, 64, 65, 66, 67, 68, 33, 69, 37, 70, 71, 72, 45, 73, 47, 48, 21, 22, 23, 49, 74, 75, 76, 77, 50, 78, 79, 80, 81, 82, 83, 84, 85, 35, 86, 87, 88, 89, 38, 90, 91, 92, 93, 94, 95, 96, 97, 16, 98, 99, 100, 101, 17, 29, 102, 103, 104, 105, 106, 107, 108, 109, 25, 110, 111, 112, 113, 114, 115, 116, 117, 118, 119, 138, 139, 140, 141, 142, 143, 144, 145, 146, 147, 148, 149, 150, 151, 152, 153] (by decide +kernel) (by decide +kernel)
set_option maxRecDepth 20000 in
theorem gX5_loadAt_X3_loadAddressed : GoodIn wsX5_loadAt (wsV RX5 98 RX3 yX3_loadAddressed wsX3_loadAddressed) := goodIn_app (goodIn_of _ (by decide +kernel)) ggX5_loadAt_X3_loadAddressed
set_option maxRecDepth 20000 in
theorem ggX5_loadAt_X2_settle : GoodIn wsX5_loadAt wsX2_settle := goodIn_r _ [123, 124, 56, 125, 126, 127, 128, 6, 129, 10, 9, 135, 136, 137] (by decide +kernel) (by decide +kernel)
set_option maxRecDepth 20000 in
theorem gX5_loadAt_X2_settle : GoodIn wsX5_loadAt (wsV RX5 50 RX2 yX2_settle wsX2_settle) := goodIn_app (goodIn_of _ (by decide +kernel)) ggX5_loadAt_X2_settle
theorem dX5_loadAt_0 : decode cX5_loadAt 0 = .ok (.aload_n 0, 1) := by decide +kernel
theorem dX5_loadAt_1 : decode cX5_loadAt 1 = .ok (.getfield 22, 3) := by decide +kernel
theorem dX5_loadAt_4 : decode cX5_loadAt 4 = .ok (.aload_n 0, 1) := by decide +kernel
theorem dX5_loadAt_5 : decode cX5_loadAt 5 = .ok (.getfield 10, 3) := by decide +kernel
theorem dX5_loadAt_8 : decode cX5_loadAt 8 = .ok (.invokevirtual 42, 3) := by decide +kernel
theorem dX5_loadAt_11 : decode cX5_loadAt 11 = .ok (.aload_n 0, 1) := by decide +kernel
theorem dX5_loadAt_12 : decode cX5_loadAt 12 = .ok (.getfield 22, 3) := by decide +kernel
theorem dX5_loadAt_15 : decode cX5_loadAt 15 = .ok (.aload_n 0, 1) := by decide +kernel
theorem dX5_loadAt_16 : decode cX5_loadAt 16 = .ok (.getfield 10, 3) := by decide +kernel
theorem dX5_loadAt_19 : decode cX5_loadAt 19 = .ok (.iload_n 1, 1) := by decide +kernel
theorem dX5_loadAt_20 : decode cX5_loadAt 20 = .ok (.iload_n 2, 1) := by decide +kernel
theorem dX5_loadAt_21 : decode cX5_loadAt 21 = .ok (.iload_n 3, 1) := by decide +kernel
theorem dX5_loadAt_22 : decode cX5_loadAt 22 = .ok (.invokevirtual 98, 3) := by decide +kernel
theorem dX5_loadAt_25 : decode cX5_loadAt 25 = .ok (.invokevirtual 50, 3) := by decide +kernel
theorem dX5_loadAt_28 : decode cX5_loadAt 28 = .ok (.ireturn, 1) := by decide +kernel
set_option maxRecDepth 20000 in
theorem ggX5_output_X2_hold : GoodIn wsX5_output wsX2_hold := goodIn_r _ [7, 8, 9, 10, 11, 12, 13, 14, 15, 16, 17, 18, 19, 20, 21, 22, 23, 24, 25, 26, 27, 28, 29, 30, 31, 32, 33, 34, 35, 36, 37, 38, 39, 40, 41, 42, 43, 44, 45, 46, 47, 48, 49, 50, 105, 106, 107, 108, 109, 110, 111, 112, 113, 114, 115, 116, 117, 118, 119, 120, 121, 122, 123] (by decide +kernel) (by decide +kernel)
set_option maxRecDepth 20000 in
theorem gX5_output_X2_hold : GoodIn wsX5_output (wsV RX5 42 RX2 yX2_hold wsX2_hold) := goodIn_app (goodIn_of _ (by decide +kernel)) ggX5_output_X2_hold
set_option maxRecDepth 20000 in
theorem ggX5_output_X3_outputRegister : GoodIn wsX5_output wsX3_outputRegister := goodIn_r _ [54, 26, 18, 55, 56, 57, 58, 59, 60, 61, 62, 14, 63, 27, 19, 64, 65, 66, 67, 68, 33, 69, 37, 70, 71, 72, 45, 73, 47, 48, 21, 22, 23, 49, 74, 75, 76, 77, 50, 78, 79, 80, 81, 82, 83, 84, 85, 35, 86, 87, 88, 89, 38, 108, 109, 110, 111, 112, 113, 114, 115, 116, 117, 118, 119, 120, 121, 122, 123] (by decide +kernel) (by decide +kernel)
set_option maxRecDepth 20000 in
theorem gX5_output_X3_outputRegister : GoodIn wsX5_output (wsV RX5 101 RX3 yX3_outputRegister wsX3_outputRegister) := goodIn_app (goodIn_of _ (by decide +kernel)) ggX5_output_X3_outputRegister
set_option maxRecDepth 20000 in
theorem ggX5_output_X2_settle : GoodIn wsX5_output wsX2_settle := goodIn_r _ [93, 94, 56, 95, 96, 97, 98, 6, 99, 10, 9, 105, 106, 107] (by decide +kernel) (by decide +kernel)
set_option maxRecDepth 20000 in
theorem gX5_output_X2_settle : GoodIn wsX5_output (wsV RX5 50 RX2 yX2_settle wsX2_settle) := goodIn_app (goodIn_of _ (by decide +kernel)) ggX5_output_X2_settle
theorem dX5_output_0 : decode cX5_output 0 = .ok (.aload_n 0, 1) := by decide +kernel
theorem dX5_output_1 : decode cX5_output 1 = .ok (.getfield 22, 3) := by decide +kernel
theorem dX5_output_4 : decode cX5_output 4 = .ok (.aload_n 0, 1) := by decide +kernel
theorem dX5_output_5 : decode cX5_output 5 = .ok (.getfield 10, 3) := by decide +kernel
theorem dX5_output_8 : decode cX5_output 8 = .ok (.invokevirtual 42, 3) := by decide +kernel
theorem dX5_output_11 : decode cX5_output 11 = .ok (.aload_n 0, 1) := by decide +kernel
theorem dX5_output_12 : decode cX5_output 12 = .ok (.getfield 22, 3) := by decide +kernel
theorem dX5_output_15 : decode cX5_output 15 = .ok (.aload_n 0, 1) := by decide +kernel
theorem dX5_output_16 : decode cX5_output 16 = .ok (.getfield 10, 3) := by decide +kernel
theorem dX5_output_19 : decode cX5_output 19 = .ok (.iload_n 1, 1) := by decide +kernel
theorem dX5_output_20 : decode cX5_output 20 = .ok (.iload_n 2, 1) := by decide +kernel
theorem dX5_output_21 : decode cX5_output 21 = .ok (.invokevirtual 101, 3) := by decide +kernel
theorem dX5_output_24 : decode cX5_output 24 = .ok (.invokevirtual 50, 3) := by decide +kernel
theorem dX5_output_27 : decode cX5_output 27 = .ok (.ireturn, 1) := by decide +kernel
set_option maxRecDepth 20000 in
theorem ggX5_undo_X2_restore : GoodIn wsX5_undo wsX2_restore := goodIn_r _ [7, 8, 9, 10, 11, 12, 13, 14, 15, 16, 17, 18, 19, 20, 21, 22, 23, 24, 25, 26, 27, 28, 29, 30, 31, 32, 33, 34, 35, 36, 37, 38, 39, 40, 41, 42, 43, 44, 45, 46, 47, 48, 49, 50, 56, 57, 58, 59, 60, 61, 62, 63, 64, 65, 66, 67, 68, 69, 70, 71, 72, 73, 74] (by decide +kernel) (by decide +kernel)
set_option maxRecDepth 20000 in
theorem gX5_undo_X2_restore : GoodIn wsX5_undo (wsV RX5 130 RX2 yX2_restore wsX2_restore) := goodIn_app (goodIn_of _ (by decide +kernel)) ggX5_undo_X2_restore
theorem dX5_undo_0 : decode cX5_undo 0 = .ok (.aload_n 0, 1) := by decide +kernel
theorem dX5_undo_1 : decode cX5_undo 1 = .ok (.getfield 22, 3) := by decide +kernel
theorem dX5_undo_4 : decode cX5_undo 4 = .ok (.aload_n 0, 1) := by decide +kernel
theorem dX5_undo_5 : decode cX5_undo 5 = .ok (.getfield 10, 3) := by decide +kernel
theorem dX5_undo_8 : decode cX5_undo 8 = .ok (.invokevirtual 130, 3) := by decide +kernel
theorem dX5_undo_11 : decode cX5_undo 11 = .ok (.ireturn, 1) := by decide +kernel
set_option maxRecDepth 20000 in
theorem ggX5_value_X5_isWord : GoodIn wsX5_value wsX5_isWord := goodIn_r _ [5] (by decide +kernel) (by decide +kernel)
set_option maxRecDepth 20000 in
theorem gX5_value_X5_isWord : GoodIn wsX5_value (va_wsS RX5 133 yX5_isWord wsX5_isWord) := goodIn_app (goodIn_of _ (by decide +kernel)) ggX5_value_X5_isWord
theorem dX5_value_0 : decode cX5_value 0 = .ok (.iload_n 1, 1) := by decide +kernel
theorem dX5_value_1 : decode cX5_value 1 = .ok (.invokestatic 133, 3) := by decide +kernel
theorem dX5_value_4 : decode cX5_value 4 = .ok (.ifCond .eq 18, 3) := by decide +kernel
theorem dX5_value_7 : decode cX5_value 7 = .ok (.aload_n 0, 1) := by decide +kernel
theorem dX5_value_8 : decode cX5_value 8 = .ok (.getfield 10, 3) := by decide +kernel
theorem dX5_value_11 : decode cX5_value 11 = .ok (.getfield 136, 3) := by decide +kernel
theorem dX5_value_14 : decode cX5_value 14 = .ok (.getfield 139, 3) := by decide +kernel
theorem dX5_value_17 : decode cX5_value 17 = .ok (.iload_n 1, 1) := by decide +kernel
theorem dX5_value_18 : decode cX5_value 18 = .ok (.iaload, 1) := by decide +kernel
theorem dX5_value_19 : decode cX5_value 19 = .ok (.goto 4, 3) := by decide +kernel
theorem dX5_value_22 : decode cX5_value 22 = .ok (.iconst (-1), 1) := by decide +kernel
theorem dX5_value_23 : decode cX5_value 23 = .ok (.ireturn, 1) := by decide +kernel
set_option maxRecDepth 20000 in
theorem ggX5_origin_X5_isWord : GoodIn wsX5_origin wsX5_isWord := goodIn_r _ [5] (by decide +kernel) (by decide +kernel)
set_option maxRecDepth 20000 in
theorem gX5_origin_X5_isWord : GoodIn wsX5_origin (va_wsS RX5 133 yX5_isWord wsX5_isWord) := goodIn_app (goodIn_of _ (by decide +kernel)) ggX5_origin_X5_isWord
theorem dX5_origin_0 : decode cX5_origin 0 = .ok (.iload_n 1, 1) := by decide +kernel
theorem dX5_origin_1 : decode cX5_origin 1 = .ok (.invokestatic 133, 3) := by decide +kernel
theorem dX5_origin_4 : decode cX5_origin 4 = .ok (.ifCond .eq 18, 3) := by decide +kernel
theorem dX5_origin_7 : decode cX5_origin 7 = .ok (.aload_n 0, 1) := by decide +kernel
theorem dX5_origin_8 : decode cX5_origin 8 = .ok (.getfield 10, 3) := by decide +kernel
theorem dX5_origin_11 : decode cX5_origin 11 = .ok (.getfield 136, 3) := by decide +kernel
theorem dX5_origin_14 : decode cX5_origin 14 = .ok (.getfield 143, 3) := by decide +kernel
theorem dX5_origin_17 : decode cX5_origin 17 = .ok (.iload_n 1, 1) := by decide +kernel
theorem dX5_origin_18 : decode cX5_origin 18 = .ok (.iaload, 1) := by decide +kernel
theorem dX5_origin_19 : decode cX5_origin 19 = .ok (.goto 4, 3) := by decide +kernel
theorem dX5_origin_22 : decode cX5_origin 22 = .ok (.iconst (-1), 1) := by decide +kernel
theorem dX5_origin_23 : decode cX5_origin 23 = .ok (.ireturn, 1) := by decide +kernel
set_option maxRecDepth 20000 in
theorem ggX5_hops_X5_isWord : GoodIn wsX5_hops wsX5_isWord := goodIn_r _ [5] (by decide +kernel) (by decide +kernel)
set_option maxRecDepth 20000 in
theorem gX5_hops_X5_isWord : GoodIn wsX5_hops (va_wsS RX5 133 yX5_isWord wsX5_isWord) := goodIn_app (goodIn_of _ (by decide +kernel)) ggX5_hops_X5_isWord
theorem dX5_hops_0 : decode cX5_hops 0 = .ok (.iload_n 1, 1) := by decide +kernel
theorem dX5_hops_1 : decode cX5_hops 1 = .ok (.invokestatic 133, 3) := by decide +kernel
theorem dX5_hops_4 : decode cX5_hops 4 = .ok (.ifCond .eq 18, 3) := by decide +kernel
theorem dX5_hops_7 : decode cX5_hops 7 = .ok (.aload_n 0, 1) := by decide +kernel
theorem dX5_hops_8 : decode cX5_hops 8 = .ok (.getfield 10, 3) := by decide +kernel
theorem dX5_hops_11 : decode cX5_hops 11 = .ok (.getfield 136, 3) := by decide +kernel
theorem dX5_hops_14 : decode cX5_hops 14 = .ok (.getfield 146, 3) := by decide +kernel
theorem dX5_hops_17 : decode cX5_hops 17 = .ok (.iload_n 1, 1) := by decide +kernel
theorem dX5_hops_18 : decode cX5_hops 18 = .ok (.iaload, 1) := by decide +kernel
theorem dX5_hops_19 : decode cX5_hops 19 = .ok (.goto 4, 3) := by decide +kernel
theorem dX5_hops_22 : decode cX5_hops 22 = .ok (.iconst (-1), 1) := by decide +kernel
theorem dX5_hops_23 : decode cX5_hops 23 = .ok (.ireturn, 1) := by decide +kernel
set_option maxRecDepth 20000 in
theorem ggX5_mirrorValue_X5_isWord : GoodIn wsX5_mirrorValue wsX5_isWord := goodIn_r _ [5] (by decide +kernel) (by decide +kernel)
set_option maxRecDepth 20000 in
theorem gX5_mirrorValue_X5_isWord : GoodIn wsX5_mirrorValue (va_wsS RX5 133 yX5_isWord wsX5_isWord) := goodIn_app (goodIn_of _ (by decide +kernel)) ggX5_mirrorValue_X5_isWord
set_option maxRecDepth 20000 in
theorem ggX5_mirrorValue_X3_hasSecond : GoodIn wsX5_mirrorValue wsX3_hasSecond := goodIn_r _ [9, 10, 16, 17, 18, 19, 20, 21, 22, 23, 24, 25] (by decide +kernel) (by decide +kernel)
set_option maxRecDepth 20000 in
theorem gX5_mirrorValue_X3_hasSecond_n149 : GoodIn wsX5_mirrorValue (wsX3_hasSecond) := ggX5_mirrorValue_X3_hasSecond
theorem dX5_mirrorValue_0 : decode cX5_mirrorValue 0 = .ok (.iload_n 1, 1) := by decide +kernel
theorem dX5_mirrorValue_1 : decode cX5_mirrorValue 1 = .ok (.invokestatic 133, 3) := by decide +kernel
theorem dX5_mirrorValue_4 : decode cX5_mirrorValue 4 = .ok (.ifCond .ne 5, 3) := by decide +kernel
theorem dX5_mirrorValue_7 : decode cX5_mirrorValue 7 = .ok (.iconst (-1), 1) := by decide +kernel
theorem dX5_mirrorValue_8 : decode cX5_mirrorValue 8 = .ok (.ireturn, 1) := by decide +kernel
theorem dX5_mirrorValue_9 : decode cX5_mirrorValue 9 = .ok (.aload_n 0, 1) := by decide +kernel
theorem dX5_mirrorValue_10 : decode cX5_mirrorValue 10 = .ok (.getfield 10, 3) := by decide +kernel
theorem dX5_mirrorValue_13 : decode cX5_mirrorValue 13 = .ok (.iload_n 1, 1) := by decide +kernel
theorem dX5_mirrorValue_14 : decode cX5_mirrorValue 14 = .ok (.invokevirtual 149, 3) := by decide +kernel
theorem dX5_mirrorValue_17 : decode cX5_mirrorValue 17 = .ok (.ifCond .eq 18, 3) := by decide +kernel
theorem dX5_mirrorValue_20 : decode cX5_mirrorValue 20 = .ok (.aload_n 0, 1) := by decide +kernel
theorem dX5_mirrorValue_21 : decode cX5_mirrorValue 21 = .ok (.getfield 10, 3) := by decide +kernel
theorem dX5_mirrorValue_24 : decode cX5_mirrorValue 24 = .ok (.getfield 152, 3) := by decide +kernel
theorem dX5_mirrorValue_27 : decode cX5_mirrorValue 27 = .ok (.getfield 139, 3) := by decide +kernel
theorem dX5_mirrorValue_30 : decode cX5_mirrorValue 30 = .ok (.iload_n 1, 1) := by decide +kernel
theorem dX5_mirrorValue_31 : decode cX5_mirrorValue 31 = .ok (.iaload, 1) := by decide +kernel
theorem dX5_mirrorValue_32 : decode cX5_mirrorValue 32 = .ok (.goto 5, 3) := by decide +kernel
theorem dX5_mirrorValue_35 : decode cX5_mirrorValue 35 = .ok (.bipush (-6), 2) := by decide +kernel
theorem dX5_mirrorValue_37 : decode cX5_mirrorValue 37 = .ok (.ireturn, 1) := by decide +kernel
set_option maxRecDepth 20000 in
theorem ggX5_mirrorOrigin_X5_isWord : GoodIn wsX5_mirrorOrigin wsX5_isWord := goodIn_r _ [5] (by decide +kernel) (by decide +kernel)
set_option maxRecDepth 20000 in
theorem gX5_mirrorOrigin_X5_isWord : GoodIn wsX5_mirrorOrigin (va_wsS RX5 133 yX5_isWord wsX5_isWord) := goodIn_app (goodIn_of _ (by decide +kernel)) ggX5_mirrorOrigin_X5_isWord
set_option maxRecDepth 20000 in
theorem ggX5_mirrorOrigin_X3_hasSecond : GoodIn wsX5_mirrorOrigin wsX3_hasSecond := goodIn_r _ [9, 10, 16, 17, 18, 19, 20, 21, 22, 23, 24, 25] (by decide +kernel) (by decide +kernel)
set_option maxRecDepth 20000 in
theorem gX5_mirrorOrigin_X3_hasSecond_n149 : GoodIn wsX5_mirrorOrigin (wsX3_hasSecond) := ggX5_mirrorOrigin_X3_hasSecond
theorem dX5_mirrorOrigin_0 : decode cX5_mirrorOrigin 0 = .ok (.iload_n 1, 1) := by decide +kernel
theorem dX5_mirrorOrigin_1 : decode cX5_mirrorOrigin 1 = .ok (.invokestatic 133, 3) := by decide +kernel
theorem dX5_mirrorOrigin_4 : decode cX5_mirrorOrigin 4 = .ok (.ifCond .ne 5, 3) := by decide +kernel
theorem dX5_mirrorOrigin_7 : decode cX5_mirrorOrigin 7 = .ok (.iconst (-1), 1) := by decide +kernel
theorem dX5_mirrorOrigin_8 : decode cX5_mirrorOrigin 8 = .ok (.ireturn, 1) := by decide +kernel
theorem dX5_mirrorOrigin_9 : decode cX5_mirrorOrigin 9 = .ok (.aload_n 0, 1) := by decide +kernel
theorem dX5_mirrorOrigin_10 : decode cX5_mirrorOrigin 10 = .ok (.getfield 10, 3) := by decide +kernel
theorem dX5_mirrorOrigin_13 : decode cX5_mirrorOrigin 13 = .ok (.iload_n 1, 1) := by decide +kernel
theorem dX5_mirrorOrigin_14 : decode cX5_mirrorOrigin 14 = .ok (.invokevirtual 149, 3) := by decide +kernel
theorem dX5_mirrorOrigin_17 : decode cX5_mirrorOrigin 17 = .ok (.ifCond .eq 18, 3) := by decide +kernel
theorem dX5_mirrorOrigin_20 : decode cX5_mirrorOrigin 20 = .ok (.aload_n 0, 1) := by decide +kernel
theorem dX5_mirrorOrigin_21 : decode cX5_mirrorOrigin 21 = .ok (.getfield 10, 3) := by decide +kernel
theorem dX5_mirrorOrigin_24 : decode cX5_mirrorOrigin 24 = .ok (.getfield 152, 3) := by decide +kernel
theorem dX5_mirrorOrigin_27 : decode cX5_mirrorOrigin 27 = .ok (.getfield 143, 3) := by decide +kernel
theorem dX5_mirrorOrigin_30 : decode cX5_mirrorOrigin 30 = .ok (.iload_n 1, 1) := by decide +kernel
theorem dX5_mirrorOrigin_31 : decode cX5_mirrorOrigin 31 = .ok (.iaload, 1) := by decide +kernel
theorem dX5_mirrorOrigin_32 : decode cX5_mirrorOrigin 32 = .ok (.goto 5, 3) := by decide +kernel
theorem dX5_mirrorOrigin_35 : decode cX5_mirrorOrigin 35 = .ok (.bipush (-6), 2) := by decide +kernel
theorem dX5_mirrorOrigin_37 : decode cX5_mirrorOrigin 37 = .ok (.ireturn, 1) := by decide +kernel
set_option maxRecDepth 20000 in
theorem ggX5_register_X5_isTask : GoodIn wsX5_register wsX5_isTask := goodIn_r _ [5] (by decide +kernel) (by decide +kernel)
set_option maxRecDepth 20000 in
theorem gX5_register_X5_isTask : GoodIn wsX5_register (va_wsS RX5 155 yX5_isTask wsX5_isTask) := goodIn_app (goodIn_of _ (by decide +kernel)) ggX5_register_X5_isTask
set_option maxRecDepth 20000 in
theorem ggX5_register_X5_isRegister : GoodIn wsX5_register wsX5_isRegister := goodIn_r _ [8] (by decide +kernel) (by decide +kernel)
set_option maxRecDepth 20000 in
theorem gX5_register_X5_isRegister : GoodIn wsX5_register (va_wsS RX5 158 yX5_isRegister wsX5_isRegister) := goodIn_app (goodIn_of _ (by decide +kernel)) ggX5_register_X5_isRegister
set_option maxRecDepth 20000 in
theorem ggX5_register_X5_cellOf : GoodIn wsX5_register wsX5_cellOf := goodIn_r _ [11] (by decide +kernel) (by decide +kernel)
set_option maxRecDepth 20000 in
theorem gX5_register_X5_cellOf : GoodIn wsX5_register (va_wsS RX5 164 yX5_cellOf wsX5_cellOf) := goodIn_app (goodIn_of _ (by decide +kernel)) ggX5_register_X5_cellOf
theorem dX5_register_0 : decode cX5_register 0 = .ok (.iload_n 1, 1) := by decide +kernel
theorem dX5_register_1 : decode cX5_register 1 = .ok (.invokestatic 155, 3) := by decide +kernel
theorem dX5_register_4 : decode cX5_register 4 = .ok (.ifCond .eq 10, 3) := by decide +kernel
theorem dX5_register_7 : decode cX5_register 7 = .ok (.iload_n 2, 1) := by decide +kernel
theorem dX5_register_8 : decode cX5_register 8 = .ok (.invokestatic 158, 3) := by decide +kernel
theorem dX5_register_11 : decode cX5_register 11 = .ok (.ifCond .ne 5, 3) := by decide +kernel
theorem dX5_register_14 : decode cX5_register 14 = .ok (.iconst (-1), 1) := by decide +kernel
theorem dX5_register_15 : decode cX5_register 15 = .ok (.ireturn, 1) := by decide +kernel
theorem dX5_register_16 : decode cX5_register 16 = .ok (.aload_n 0, 1) := by decide +kernel
theorem dX5_register_17 : decode cX5_register 17 = .ok (.getfield 10, 3) := by decide +kernel
theorem dX5_register_20 : decode cX5_register 20 = .ok (.getfield 161, 3) := by decide +kernel
theorem dX5_register_23 : decode cX5_register 23 = .ok (.getfield 139, 3) := by decide +kernel
theorem dX5_register_26 : decode cX5_register 26 = .ok (.iload_n 1, 1) := by decide +kernel
theorem dX5_register_27 : decode cX5_register 27 = .ok (.iload_n 2, 1) := by decide +kernel
theorem dX5_register_28 : decode cX5_register 28 = .ok (.invokestatic 164, 3) := by decide +kernel
theorem dX5_register_31 : decode cX5_register 31 = .ok (.iaload, 1) := by decide +kernel
theorem dX5_register_32 : decode cX5_register 32 = .ok (.ireturn, 1) := by decide +kernel
set_option maxRecDepth 20000 in
theorem ggX5_registerOrigin_X5_isTask : GoodIn wsX5_registerOrigin wsX5_isTask := goodIn_r _ [5] (by decide +kernel) (by decide +kernel)
set_option maxRecDepth 20000 in
theorem gX5_registerOrigin_X5_isTask : GoodIn wsX5_registerOrigin (va_wsS RX5 155 yX5_isTask wsX5_isTask) := goodIn_app (goodIn_of _ (by decide +kernel)) ggX5_registerOrigin_X5_isTask
set_option maxRecDepth 20000 in
theorem ggX5_registerOrigin_X5_isRegister : GoodIn wsX5_registerOrigin wsX5_isRegister := goodIn_r _ [8] (by decide +kernel) (by decide +kernel)
set_option maxRecDepth 20000 in
theorem gX5_registerOrigin_X5_isRegister : GoodIn wsX5_registerOrigin (va_wsS RX5 158 yX5_isRegister wsX5_isRegister) := goodIn_app (goodIn_of _ (by decide +kernel)) ggX5_registerOrigin_X5_isRegister
set_option maxRecDepth 20000 in
theorem ggX5_registerOrigin_X5_cellOf : GoodIn wsX5_registerOrigin wsX5_cellOf := goodIn_r _ [11] (by decide +kernel) (by decide +kernel)
set_option maxRecDepth 20000 in
theorem gX5_registerOrigin_X5_cellOf : GoodIn wsX5_registerOrigin (va_wsS RX5 164 yX5_cellOf wsX5_cellOf) := goodIn_app (goodIn_of _ (by decide +kernel)) ggX5_registerOrigin_X5_cellOf
theorem dX5_registerOrigin_0 : decode cX5_registerOrigin 0 = .ok (.iload_n 1, 1) := by decide +kernel
theorem dX5_registerOrigin_1 : decode cX5_registerOrigin 1 = .ok (.invokestatic 155, 3) := by decide +kernel
theorem dX5_registerOrigin_4 : decode cX5_registerOrigin 4 = .ok (.ifCond .eq 10, 3) := by decide +kernel
theorem dX5_registerOrigin_7 : decode cX5_registerOrigin 7 = .ok (.iload_n 2, 1) := by decide +kernel
theorem dX5_registerOrigin_8 : decode cX5_registerOrigin 8 = .ok (.invokestatic 158, 3) := by decide +kernel
theorem dX5_registerOrigin_11 : decode cX5_registerOrigin 11 = .ok (.ifCond .ne 5, 3) := by decide +kernel
theorem dX5_registerOrigin_14 : decode cX5_registerOrigin 14 = .ok (.iconst (-1), 1) := by decide +kernel
theorem dX5_registerOrigin_15 : decode cX5_registerOrigin 15 = .ok (.ireturn, 1) := by decide +kernel
theorem dX5_registerOrigin_16 : decode cX5_registerOrigin 16 = .ok (.aload_n 0, 1) := by decide +kernel
theorem dX5_registerOrigin_17 : decode cX5_registerOrigin 17 = .ok (.getfield 10, 3) := by decide +kernel
theorem dX5_registerOrigin_20 : decode cX5_registerOrigin 20 = .ok (.getfield 161, 3) := by decide +kernel
theorem dX5_registerOrigin_23 : decode cX5_registerOrigin 23 = .ok (.getfield 143, 3) := by decide +kernel
theorem dX5_registerOrigin_26 : decode cX5_registerOrigin 26 = .ok (.iload_n 1, 1) := by decide +kernel
theorem dX5_registerOrigin_27 : decode cX5_registerOrigin 27 = .ok (.iload_n 2, 1) := by decide +kernel
theorem dX5_registerOrigin_28 : decode cX5_registerOrigin 28 = .ok (.invokestatic 164, 3) := by decide +kernel
theorem dX5_registerOrigin_31 : decode cX5_registerOrigin 31 = .ok (.iaload, 1) := by decide +kernel
theorem dX5_registerOrigin_32 : decode cX5_registerOrigin 32 = .ok (.ireturn, 1) := by decide +kernel
set_option maxRecDepth 20000 in
theorem ggX5_registerHops_X5_isTask : GoodIn wsX5_registerHops wsX5_isTask := goodIn_r _ [5] (by decide +kernel) (by decide +kernel)
set_option maxRecDepth 20000 in
theorem gX5_registerHops_X5_isTask : GoodIn wsX5_registerHops (va_wsS RX5 155 yX5_isTask wsX5_isTask) := goodIn_app (goodIn_of _ (by decide +kernel)) ggX5_registerHops_X5_isTask
set_option maxRecDepth 20000 in
theorem ggX5_registerHops_X5_isRegister : GoodIn wsX5_registerHops wsX5_isRegister := goodIn_r _ [8] (by decide +kernel) (by decide +kernel)
set_option maxRecDepth 20000 in
theorem gX5_registerHops_X5_isRegister : GoodIn wsX5_registerHops (va_wsS RX5 158 yX5_isRegister wsX5_isRegister) := goodIn_app (goodIn_of _ (by decide +kernel)) ggX5_registerHops_X5_isRegister
set_option maxRecDepth 20000 in
theorem ggX5_registerHops_X5_cellOf : GoodIn wsX5_registerHops wsX5_cellOf := goodIn_r _ [11] (by decide +kernel) (by decide +kernel)
set_option maxRecDepth 20000 in
theorem gX5_registerHops_X5_cellOf : GoodIn wsX5_registerHops (va_wsS RX5 164 yX5_cellOf wsX5_cellOf) := goodIn_app (goodIn_of _ (by decide +kernel)) ggX5_registerHops_X5_cellOf
theorem dX5_registerHops_0 : decode cX5_registerHops 0 = .ok (.iload_n 1, 1) := by decide +kernel
theorem dX5_registerHops_1 : decode cX5_registerHops 1 = .ok (.invokestatic 155, 3) := by decide +kernel
theorem dX5_registerHops_4 : decode cX5_registerHops 4 = .ok (.ifCond .eq 10, 3) := by decide +kernel
theorem dX5_registerHops_7 : decode cX5_registerHops 7 = .ok (.iload_n 2, 1) := by decide +kernel
theorem dX5_registerHops_8 : decode cX5_registerHops 8 = .ok (.invokestatic 158, 3) := by decide +kernel
theorem dX5_registerHops_11 : decode cX5_registerHops 11 = .ok (.ifCond .ne 5, 3) := by decide +kernel
theorem dX5_registerHops_14 : decode cX5_registerHops 14 = .ok (.iconst (-1), 1) := by decide +kernel
theorem dX5_registerHops_15 : decode cX5_registerHops 15 = .ok (.ireturn, 1) := by decide +kernel
theorem dX5_registerHops_16 : decode cX5_registerHops 16 = .ok (.aload_n 0, 1) := by decide +kernel
theorem dX5_registerHops_17 : decode cX5_registerHops 17 = .ok (.getfield 10, 3) := by decide +kernel
theorem dX5_registerHops_20 : decode cX5_registerHops 20 = .ok (.getfield 161, 3) := by decide +kernel
theorem dX5_registerHops_23 : decode cX5_registerHops 23 = .ok (.getfield 146, 3) := by decide +kernel
theorem dX5_registerHops_26 : decode cX5_registerHops 26 = .ok (.iload_n 1, 1) := by decide +kernel
theorem dX5_registerHops_27 : decode cX5_registerHops 27 = .ok (.iload_n 2, 1) := by decide +kernel
theorem dX5_registerHops_28 : decode cX5_registerHops 28 = .ok (.invokestatic 164, 3) := by decide +kernel
theorem dX5_registerHops_31 : decode cX5_registerHops 31 = .ok (.iaload, 1) := by decide +kernel
theorem dX5_registerHops_32 : decode cX5_registerHops 32 = .ok (.ireturn, 1) := by decide +kernel
set_option maxRecDepth 20000 in
theorem ggX5_mode_X5_isTask : GoodIn wsX5_mode wsX5_isTask := goodIn_r _ [5] (by decide +kernel) (by decide +kernel)
set_option maxRecDepth 20000 in
theorem gX5_mode_X5_isTask : GoodIn wsX5_mode (va_wsS RX5 155 yX5_isTask wsX5_isTask) := goodIn_app (goodIn_of _ (by decide +kernel)) ggX5_mode_X5_isTask
theorem dX5_mode_0 : decode cX5_mode 0 = .ok (.iload_n 1, 1) := by decide +kernel
theorem dX5_mode_1 : decode cX5_mode 1 = .ok (.invokestatic 155, 3) := by decide +kernel
theorem dX5_mode_4 : decode cX5_mode 4 = .ok (.ifCond .eq 15, 3) := by decide +kernel
theorem dX5_mode_7 : decode cX5_mode 7 = .ok (.aload_n 0, 1) := by decide +kernel
theorem dX5_mode_8 : decode cX5_mode 8 = .ok (.getfield 10, 3) := by decide +kernel
theorem dX5_mode_11 : decode cX5_mode 11 = .ok (.getfield 167, 3) := by decide +kernel
theorem dX5_mode_14 : decode cX5_mode 14 = .ok (.iload_n 1, 1) := by decide +kernel
theorem dX5_mode_15 : decode cX5_mode 15 = .ok (.iaload, 1) := by decide +kernel
theorem dX5_mode_16 : decode cX5_mode 16 = .ok (.goto 4, 3) := by decide +kernel
theorem dX5_mode_19 : decode cX5_mode 19 = .ok (.iconst (-1), 1) := by decide +kernel
theorem dX5_mode_20 : decode cX5_mode 20 = .ok (.ireturn, 1) := by decide +kernel
set_option maxRecDepth 20000 in
theorem ggX5_stopped_X5_isTask : GoodIn wsX5_stopped wsX5_isTask := goodIn_r _ [5] (by decide +kernel) (by decide +kernel)
set_option maxRecDepth 20000 in
theorem gX5_stopped_X5_isTask : GoodIn wsX5_stopped (va_wsS RX5 155 yX5_isTask wsX5_isTask) := goodIn_app (goodIn_of _ (by decide +kernel)) ggX5_stopped_X5_isTask
theorem dX5_stopped_0 : decode cX5_stopped 0 = .ok (.iload_n 1, 1) := by decide +kernel
theorem dX5_stopped_1 : decode cX5_stopped 1 = .ok (.invokestatic 155, 3) := by decide +kernel
theorem dX5_stopped_4 : decode cX5_stopped 4 = .ok (.ifCond .ne 5, 3) := by decide +kernel
theorem dX5_stopped_7 : decode cX5_stopped 7 = .ok (.iconst (-1), 1) := by decide +kernel
theorem dX5_stopped_8 : decode cX5_stopped 8 = .ok (.ireturn, 1) := by decide +kernel
theorem dX5_stopped_9 : decode cX5_stopped 9 = .ok (.aload_n 0, 1) := by decide +kernel
theorem dX5_stopped_10 : decode cX5_stopped 10 = .ok (.getfield 10, 3) := by decide +kernel
theorem dX5_stopped_13 : decode cX5_stopped 13 = .ok (.getfield 170, 3) := by decide +kernel
theorem dX5_stopped_16 : decode cX5_stopped 16 = .ok (.iload_n 1, 1) := by decide +kernel
theorem dX5_stopped_17 : decode cX5_stopped 17 = .ok (.baload, 1) := by decide +kernel
theorem dX5_stopped_18 : decode cX5_stopped 18 = .ok (.ifCond .eq 7, 3) := by decide +kernel
theorem dX5_stopped_21 : decode cX5_stopped 21 = .ok (.iconst 1, 1) := by decide +kernel
theorem dX5_stopped_22 : decode cX5_stopped 22 = .ok (.goto 4, 3) := by decide +kernel
theorem dX5_stopped_25 : decode cX5_stopped 25 = .ok (.iconst 0, 1) := by decide +kernel
theorem dX5_stopped_26 : decode cX5_stopped 26 = .ok (.ireturn, 1) := by decide +kernel
theorem dX5_injections_0 : decode cX5_injections 0 = .ok (.aload_n 0, 1) := by decide +kernel
theorem dX5_injections_1 : decode cX5_injections 1 = .ok (.getfield 10, 3) := by decide +kernel
theorem dX5_injections_4 : decode cX5_injections 4 = .ok (.getfield 174, 3) := by decide +kernel
theorem dX5_injections_7 : decode cX5_injections 7 = .ok (.ireturn, 1) := by decide +kernel
set_option maxRecDepth 20000 in
theorem ggX5_source_X3_isOrigin : GoodIn wsX5_source wsX3_isOrigin := goodIn_r _ [5, 6, 12, 13, 14, 15, 16, 17, 18, 19, 20, 21] (by decide +kernel) (by decide +kernel)
set_option maxRecDepth 20000 in
theorem gX5_source_X3_isOrigin_n178 : GoodIn wsX5_source (wsX3_isOrigin) := ggX5_source_X3_isOrigin
theorem dX5_source_0 : decode cX5_source 0 = .ok (.aload_n 0, 1) := by decide +kernel
theorem dX5_source_1 : decode cX5_source 1 = .ok (.getfield 10, 3) := by decide +kernel
theorem dX5_source_4 : decode cX5_source 4 = .ok (.iload_n 1, 1) := by decide +kernel
theorem dX5_source_5 : decode cX5_source 5 = .ok (.invokevirtual 178, 3) := by decide +kernel
theorem dX5_source_8 : decode cX5_source 8 = .ok (.ifCond .eq 15, 3) := by decide +kernel
theorem dX5_source_11 : decode cX5_source 11 = .ok (.aload_n 0, 1) := by decide +kernel
theorem dX5_source_12 : decode cX5_source 12 = .ok (.getfield 10, 3) := by decide +kernel
theorem dX5_source_15 : decode cX5_source 15 = .ok (.getfield 181, 3) := by decide +kernel
theorem dX5_source_18 : decode cX5_source 18 = .ok (.iload_n 1, 1) := by decide +kernel
theorem dX5_source_19 : decode cX5_source 19 = .ok (.iaload, 1) := by decide +kernel
theorem dX5_source_20 : decode cX5_source 20 = .ok (.goto 4, 3) := by decide +kernel
theorem dX5_source_23 : decode cX5_source 23 = .ok (.iconst (-1), 1) := by decide +kernel
theorem dX5_source_24 : decode cX5_source 24 = .ok (.ireturn, 1) := by decide +kernel
theorem dX5_faults_0 : decode cX5_faults 0 = .ok (.aload_n 0, 1) := by decide +kernel
theorem dX5_faults_1 : decode cX5_faults 1 = .ok (.getfield 10, 3) := by decide +kernel
theorem dX5_faults_4 : decode cX5_faults 4 = .ok (.getfield 184, 3) := by decide +kernel
theorem dX5_faults_7 : decode cX5_faults 7 = .ok (.getfield 188, 3) := by decide +kernel
theorem dX5_faults_10 : decode cX5_faults 10 = .ok (.ireturn, 1) := by decide +kernel
theorem dX5_log_0 : decode cX5_log 0 = .ok (.iload_n 1, 1) := by decide +kernel
theorem dX5_log_1 : decode cX5_log 1 = .ok (.ifCond .lt 12, 3) := by decide +kernel
theorem dX5_log_4 : decode cX5_log 4 = .ok (.iload_n 2, 1) := by decide +kernel
theorem dX5_log_5 : decode cX5_log 5 = .ok (.ifCond .lt 8, 3) := by decide +kernel
theorem dX5_log_8 : decode cX5_log 8 = .ok (.iload_n 2, 1) := by decide +kernel
theorem dX5_log_9 : decode cX5_log 9 = .ok (.iconst 4, 1) := by decide +kernel
theorem dX5_log_10 : decode cX5_log 10 = .ok (.if_icmp .lt 6, 3) := by decide +kernel
theorem dX5_log_13 : decode cX5_log 13 = .ok (.bipush (-2), 2) := by decide +kernel
theorem dX5_log_15 : decode cX5_log 15 = .ok (.ireturn, 1) := by decide +kernel
theorem dX5_log_16 : decode cX5_log 16 = .ok (.iload_n 1, 1) := by decide +kernel
theorem dX5_log_17 : decode cX5_log 17 = .ok (.aload_n 0, 1) := by decide +kernel
theorem dX5_log_18 : decode cX5_log 18 = .ok (.getfield 10, 3) := by decide +kernel
theorem dX5_log_21 : decode cX5_log 21 = .ok (.getfield 184, 3) := by decide +kernel
theorem dX5_log_24 : decode cX5_log 24 = .ok (.getfield 193, 3) := by decide +kernel
theorem dX5_log_27 : decode cX5_log 27 = .ok (.if_icmp .ge 22, 3) := by decide +kernel
theorem dX5_log_30 : decode cX5_log 30 = .ok (.aload_n 0, 1) := by decide +kernel
theorem dX5_log_31 : decode cX5_log 31 = .ok (.getfield 10, 3) := by decide +kernel
theorem dX5_log_34 : decode cX5_log 34 = .ok (.getfield 184, 3) := by decide +kernel
theorem dX5_log_37 : decode cX5_log 37 = .ok (.getfield 196, 3) := by decide +kernel
theorem dX5_log_40 : decode cX5_log 40 = .ok (.iload_n 1, 1) := by decide +kernel
theorem dX5_log_41 : decode cX5_log 41 = .ok (.iconst 4, 1) := by decide +kernel
theorem dX5_log_42 : decode cX5_log 42 = .ok (.imul, 1) := by decide +kernel
theorem dX5_log_43 : decode cX5_log 43 = .ok (.iload_n 2, 1) := by decide +kernel
theorem dX5_log_44 : decode cX5_log 44 = .ok (.iadd, 1) := by decide +kernel
theorem dX5_log_45 : decode cX5_log 45 = .ok (.iaload, 1) := by decide +kernel
theorem dX5_log_46 : decode cX5_log 46 = .ok (.goto 5, 3) := by decide +kernel
theorem dX5_log_49 : decode cX5_log 49 = .ok (.bipush (-6), 2) := by decide +kernel
theorem dX5_log_51 : decode cX5_log 51 = .ok (.ireturn, 1) := by decide +kernel
theorem dX5_healed_0 : decode cX5_healed 0 = .ok (.aload_n 0, 1) := by decide +kernel
theorem dX5_healed_1 : decode cX5_healed 1 = .ok (.getfield 10, 3) := by decide +kernel
theorem dX5_healed_4 : decode cX5_healed 4 = .ok (.getfield 199, 3) := by decide +kernel
theorem dX5_healed_7 : decode cX5_healed 7 = .ok (.ireturn, 1) := by decide +kernel
set_option maxRecDepth 20000 in
theorem ggX5_poisoned_X5_isPage : GoodIn wsX5_poisoned wsX5_isPage := goodIn_r _ [5] (by decide +kernel) (by decide +kernel)
set_option maxRecDepth 20000 in
theorem gX5_poisoned_X5_isPage : GoodIn wsX5_poisoned (va_wsS RX5 202 yX5_isPage wsX5_isPage) := goodIn_app (goodIn_of _ (by decide +kernel)) ggX5_poisoned_X5_isPage
set_option maxRecDepth 20000 in
theorem ggX5_poisoned_X0_countPoisoned : GoodIn wsX5_poisoned wsX0_countPoisoned := goodIn_r _ [10, 11, 12, 13, 9, 14, 15, 31, 32, 33] (by decide +kernel) (by decide +kernel)
set_option maxRecDepth 20000 in
theorem gX5_poisoned_X0_countPoisoned : GoodIn wsX5_poisoned (wsV RX5 205 RX0 yX0_countPoisoned wsX0_countPoisoned) := goodIn_app (goodIn_of _ (by decide +kernel)) ggX5_poisoned_X0_countPoisoned
theorem dX5_poisoned_0 : decode cX5_poisoned 0 = .ok (.iload_n 1, 1) := by decide +kernel
theorem dX5_poisoned_1 : decode cX5_poisoned 1 = .ok (.invokestatic 202, 3) := by decide +kernel
theorem dX5_poisoned_4 : decode cX5_poisoned 4 = .ok (.ifCond .ne 5, 3) := by decide +kernel
theorem dX5_poisoned_7 : decode cX5_poisoned 7 = .ok (.iconst (-1), 1) := by decide +kernel
theorem dX5_poisoned_8 : decode cX5_poisoned 8 = .ok (.ireturn, 1) := by decide +kernel
theorem dX5_poisoned_9 : decode cX5_poisoned 9 = .ok (.aload_n 0, 1) := by decide +kernel
theorem dX5_poisoned_10 : decode cX5_poisoned 10 = .ok (.getfield 10, 3) := by decide +kernel
theorem dX5_poisoned_13 : decode cX5_poisoned 13 = .ok (.getfield 136, 3) := by decide +kernel
theorem dX5_poisoned_16 : decode cX5_poisoned 16 = .ok (.iload_n 1, 1) := by decide +kernel
theorem dX5_poisoned_17 : decode cX5_poisoned 17 = .ok (.iconst 4, 1) := by decide +kernel
theorem dX5_poisoned_18 : decode cX5_poisoned 18 = .ok (.imul, 1) := by decide +kernel
theorem dX5_poisoned_19 : decode cX5_poisoned 19 = .ok (.iload_n 1, 1) := by decide +kernel
theorem dX5_poisoned_20 : decode cX5_poisoned 20 = .ok (.iconst 1, 1) := by decide +kernel
theorem dX5_poisoned_21 : decode cX5_poisoned 21 = .ok (.iadd, 1) := by decide +kernel
theorem dX5_poisoned_22 : decode cX5_poisoned 22 = .ok (.iconst 4, 1) := by decide +kernel
theorem dX5_poisoned_23 : decode cX5_poisoned 23 = .ok (.imul, 1) := by decide +kernel
theorem dX5_poisoned_24 : decode cX5_poisoned 24 = .ok (.invokevirtual 205, 3) := by decide +kernel
theorem dX5_poisoned_27 : decode cX5_poisoned 27 = .ok (.ireturn, 1) := by decide +kernel
set_option maxRecDepth 20000 in
theorem ggX5_carriers_X3_isOrigin : GoodIn wsX5_carriers wsX3_isOrigin := goodIn_r _ [5, 6, 23, 24, 25, 26, 27, 28, 29, 30, 31, 32] (by decide +kernel) (by decide +kernel)
set_option maxRecDepth 20000 in
theorem gX5_carriers_X3_isOrigin_n178 : GoodIn wsX5_carriers (wsX3_isOrigin) := ggX5_carriers_X3_isOrigin
set_option maxRecDepth 20000 in
theorem ggX5_carriers_X3_countCarriers : GoodIn wsX5_carriers wsX3_countCarriers := goodIn_r _ [9, 10, 11, 12, 13, 14, 15, 16, 17, 23, 24, 25, 26, 27, 28, 29, 30, 31, 32, 33, 34, 35] (by decide +kernel) (by decide +kernel)
set_option maxRecDepth 20000 in
theorem gX5_carriers_X3_countCarriers_n208 : GoodIn wsX5_carriers (wsX3_countCarriers) := ggX5_carriers_X3_countCarriers
theorem dX5_carriers_0 : decode cX5_carriers 0 = .ok (.aload_n 0, 1) := by decide +kernel
theorem dX5_carriers_1 : decode cX5_carriers 1 = .ok (.getfield 10, 3) := by decide +kernel
theorem dX5_carriers_4 : decode cX5_carriers 4 = .ok (.iload_n 1, 1) := by decide +kernel
theorem dX5_carriers_5 : decode cX5_carriers 5 = .ok (.invokevirtual 178, 3) := by decide +kernel
theorem dX5_carriers_8 : decode cX5_carriers 8 = .ok (.ifCond .eq 14, 3) := by decide +kernel
theorem dX5_carriers_11 : decode cX5_carriers 11 = .ok (.aload_n 0, 1) := by decide +kernel
theorem dX5_carriers_12 : decode cX5_carriers 12 = .ok (.getfield 10, 3) := by decide +kernel
theorem dX5_carriers_15 : decode cX5_carriers 15 = .ok (.iload_n 1, 1) := by decide +kernel
theorem dX5_carriers_16 : decode cX5_carriers 16 = .ok (.invokevirtual 208, 3) := by decide +kernel
theorem dX5_carriers_19 : decode cX5_carriers 19 = .ok (.goto 4, 3) := by decide +kernel
theorem dX5_carriers_22 : decode cX5_carriers 22 = .ok (.iconst (-1), 1) := by decide +kernel
theorem dX5_carriers_23 : decode cX5_carriers 23 = .ok (.ireturn, 1) := by decide +kernel
set_option maxRecDepth 20000 in
theorem ggX5_farthest_X3_isOrigin : GoodIn wsX5_farthest wsX3_isOrigin := goodIn_r _ [9, 10, 24, 25, 26, 27, 28, 29, 30, 31, 32, 33] (by decide +kernel) (by decide +kernel)
set_option maxRecDepth 20000 in
theorem gX5_farthest_X3_isOrigin_n178 : GoodIn wsX5_farthest (wsX3_isOrigin) := ggX5_farthest_X3_isOrigin
set_option maxRecDepth 20000 in
theorem ggX5_farthest_X0_mostHops : GoodIn wsX5_farthest wsX0_mostHops := goodIn_r _ [15, 16, 17, 18, 3, 4, 5, 34, 35, 36] (by decide +kernel) (by decide +kernel)
set_option maxRecDepth 20000 in
theorem gX5_farthest_X0_mostHops : GoodIn wsX5_farthest (wsV RX5 211 RX0 yX0_mostHops wsX0_mostHops) := goodIn_app (goodIn_of _ (by decide +kernel)) ggX5_farthest_X0_mostHops
theorem dX5_farthest_0 : decode cX5_farthest 0 = .ok (.aload_n 0, 1) := by decide +kernel
theorem dX5_farthest_1 : decode cX5_farthest 1 = .ok (.getfield 10, 3) := by decide +kernel
theorem dX5_farthest_4 : decode cX5_farthest 4 = .ok (.iload_n 1, 1) := by decide +kernel
theorem dX5_farthest_5 : decode cX5_farthest 5 = .ok (.invokevirtual 178, 3) := by decide +kernel
theorem dX5_farthest_8 : decode cX5_farthest 8 = .ok (.ifCond .ne 5, 3) := by decide +kernel
theorem dX5_farthest_11 : decode cX5_farthest 11 = .ok (.iconst (-1), 1) := by decide +kernel
theorem dX5_farthest_12 : decode cX5_farthest 12 = .ok (.ireturn, 1) := by decide +kernel
theorem dX5_farthest_13 : decode cX5_farthest 13 = .ok (.aload_n 0, 1) := by decide +kernel
theorem dX5_farthest_14 : decode cX5_farthest 14 = .ok (.getfield 10, 3) := by decide +kernel
theorem dX5_farthest_17 : decode cX5_farthest 17 = .ok (.getfield 136, 3) := by decide +kernel
theorem dX5_farthest_20 : decode cX5_farthest 20 = .ok (.iload_n 1, 1) := by decide +kernel
theorem dX5_farthest_21 : decode cX5_farthest 21 = .ok (.invokevirtual 211, 3) := by decide +kernel
theorem dX5_farthest_24 : decode cX5_farthest 24 = .ok (.aload_n 0, 1) := by decide +kernel
theorem dX5_farthest_25 : decode cX5_farthest 25 = .ok (.getfield 10, 3) := by decide +kernel
theorem dX5_farthest_28 : decode cX5_farthest 28 = .ok (.getfield 161, 3) := by decide +kernel
theorem dX5_farthest_31 : decode cX5_farthest 31 = .ok (.iload_n 1, 1) := by decide +kernel
theorem dX5_farthest_32 : decode cX5_farthest 32 = .ok (.invokevirtual 211, 3) := by decide +kernel
theorem dX5_farthest_35 : decode cX5_farthest 35 = .ok (.invokestatic 214, 3) := by decide +kernel
theorem dX5_farthest_38 : decode cX5_farthest 38 = .ok (.ireturn, 1) := by decide +kernel
set_option maxRecDepth 20000 in
theorem ggX5_widest_X3_countCarriers : GoodIn wsX5_widest wsX3_countCarriers := goodIn_r _ [5, 6, 7, 8, 9, 10, 11, 12, 13, 19, 20, 21, 22, 23, 24, 25, 26, 27, 28, 29, 30, 31] (by decide +kernel) (by decide +kernel)
set_option maxRecDepth 20000 in
theorem gX5_widest_X3_countCarriers_n208 : GoodIn wsX5_widest (wsX3_countCarriers) := ggX5_widest_X3_countCarriers
theorem dX5_widest_0 : decode cX5_widest 0 = .ok (.bipush (-6), 2) := by decide +kernel
theorem dX5_widest_2 : decode cX5_widest 2 = .ok (.istore_n 1, 1) := by decide +kernel
theorem dX5_widest_3 : decode cX5_widest 3 = .ok (.iconst 0, 1) := by decide +kernel
theorem dX5_widest_4 : decode cX5_widest 4 = .ok (.istore_n 2, 1) := by decide +kernel
theorem dX5_widest_5 : decode cX5_widest 5 = .ok (.iconst 0, 1) := by decide +kernel
theorem dX5_widest_6 : decode cX5_widest 6 = .ok (.istore_n 3, 1) := by decide +kernel
theorem dX5_widest_7 : decode cX5_widest 7 = .ok (.iload_n 3, 1) := by decide +kernel
theorem dX5_widest_8 : decode cX5_widest 8 = .ok (.aload_n 0, 1) := by decide +kernel
theorem dX5_widest_9 : decode cX5_widest 9 = .ok (.getfield 10, 3) := by decide +kernel
theorem dX5_widest_12 : decode cX5_widest 12 = .ok (.getfield 174, 3) := by decide +kernel
theorem dX5_widest_15 : decode cX5_widest 15 = .ok (.if_icmp .ge 30, 3) := by decide +kernel
theorem dX5_widest_18 : decode cX5_widest 18 = .ok (.aload_n 0, 1) := by decide +kernel
theorem dX5_widest_19 : decode cX5_widest 19 = .ok (.getfield 10, 3) := by decide +kernel
theorem dX5_widest_22 : decode cX5_widest 22 = .ok (.iload_n 3, 1) := by decide +kernel
theorem dX5_widest_23 : decode cX5_widest 23 = .ok (.invokevirtual 208, 3) := by decide +kernel
theorem dX5_widest_26 : decode cX5_widest 26 = .ok (.istore 4, 2) := by decide +kernel
theorem dX5_widest_28 : decode cX5_widest 28 = .ok (.iload 4, 2) := by decide +kernel
theorem dX5_widest_30 : decode cX5_widest 30 = .ok (.iload_n 2, 1) := by decide +kernel
theorem dX5_widest_31 : decode cX5_widest 31 = .ok (.if_icmp .le 8, 3) := by decide +kernel
theorem dX5_widest_34 : decode cX5_widest 34 = .ok (.iload_n 3, 1) := by decide +kernel
theorem dX5_widest_35 : decode cX5_widest 35 = .ok (.istore_n 1, 1) := by decide +kernel
theorem dX5_widest_36 : decode cX5_widest 36 = .ok (.iload 4, 2) := by decide +kernel
theorem dX5_widest_38 : decode cX5_widest 38 = .ok (.istore_n 2, 1) := by decide +kernel
theorem dX5_widest_39 : decode cX5_widest 39 = .ok (.iinc 3 1, 3) := by decide +kernel
theorem dX5_widest_42 : decode cX5_widest 42 = .ok (.goto (-35), 3) := by decide +kernel
theorem dX5_widest_45 : decode cX5_widest 45 = .ok (.iload_n 1, 1) := by decide +kernel
theorem dX5_widest_46 : decode cX5_widest 46 = .ok (.ireturn, 1) := by decide +kernel
set_option maxRecDepth 20000 in
theorem ggX5_atRisk_X5_cellOf : GoodIn wsX5_atRisk wsX5_cellOf := goodIn_r _ [5] (by decide +kernel) (by decide +kernel)
set_option maxRecDepth 20000 in
theorem gX5_atRisk_X5_cellOf : GoodIn wsX5_atRisk (va_wsS RX5 164 yX5_cellOf wsX5_cellOf) := goodIn_app (goodIn_of _ (by decide +kernel)) ggX5_atRisk_X5_cellOf
set_option maxRecDepth 20000 in
theorem ggX5_atRisk_X0_countPoisoned : GoodIn wsX5_atRisk wsX0_countPoisoned := goodIn_r _ [10, 11, 12, 13, 9, 14, 15, 31, 32, 33] (by decide +kernel) (by decide +kernel)
set_option maxRecDepth 20000 in
theorem gX5_atRisk_X0_countPoisoned : GoodIn wsX5_atRisk (wsV RX5 205 RX0 yX0_countPoisoned wsX0_countPoisoned) := goodIn_app (goodIn_of _ (by decide +kernel)) ggX5_atRisk_X0_countPoisoned
theorem dX5_atRisk_0 : decode cX5_atRisk 0 = .ok (.iconst 0, 1) := by decide +kernel
theorem dX5_atRisk_1 : decode cX5_atRisk 1 = .ok (.istore_n 1, 1) := by decide +kernel
theorem dX5_atRisk_2 : decode cX5_atRisk 2 = .ok (.iconst 0, 1) := by decide +kernel
theorem dX5_atRisk_3 : decode cX5_atRisk 3 = .ok (.istore_n 2, 1) := by decide +kernel
theorem dX5_atRisk_4 : decode cX5_atRisk 4 = .ok (.iload_n 2, 1) := by decide +kernel
theorem dX5_atRisk_5 : decode cX5_atRisk 5 = .ok (.iconst 4, 1) := by decide +kernel
theorem dX5_atRisk_6 : decode cX5_atRisk 6 = .ok (.if_icmp .ge 52, 3) := by decide +kernel
theorem dX5_atRisk_9 : decode cX5_atRisk 9 = .ok (.aload_n 0, 1) := by decide +kernel
theorem dX5_atRisk_10 : decode cX5_atRisk 10 = .ok (.getfield 10, 3) := by decide +kernel
theorem dX5_atRisk_13 : decode cX5_atRisk 13 = .ok (.getfield 161, 3) := by decide +kernel
theorem dX5_atRisk_16 : decode cX5_atRisk 16 = .ok (.iload_n 2, 1) := by decide +kernel
theorem dX5_atRisk_17 : decode cX5_atRisk 17 = .ok (.iconst 0, 1) := by decide +kernel
theorem dX5_atRisk_18 : decode cX5_atRisk 18 = .ok (.invokestatic 164, 3) := by decide +kernel
theorem dX5_atRisk_21 : decode cX5_atRisk 21 = .ok (.iload_n 2, 1) := by decide +kernel
theorem dX5_atRisk_22 : decode cX5_atRisk 22 = .ok (.iconst 4, 1) := by decide +kernel
theorem dX5_atRisk_23 : decode cX5_atRisk 23 = .ok (.invokestatic 164, 3) := by decide +kernel
theorem dX5_atRisk_26 : decode cX5_atRisk 26 = .ok (.invokevirtual 205, 3) := by decide +kernel
theorem dX5_atRisk_29 : decode cX5_atRisk 29 = .ok (.istore_n 3, 1) := by decide +kernel
theorem dX5_atRisk_30 : decode cX5_atRisk 30 = .ok (.aload_n 0, 1) := by decide +kernel
theorem dX5_atRisk_31 : decode cX5_atRisk 31 = .ok (.getfield 10, 3) := by decide +kernel
theorem dX5_atRisk_34 : decode cX5_atRisk 34 = .ok (.getfield 170, 3) := by decide +kernel
theorem dX5_atRisk_37 : decode cX5_atRisk 37 = .ok (.iload_n 2, 1) := by decide +kernel
theorem dX5_atRisk_38 : decode cX5_atRisk 38 = .ok (.baload, 1) := by decide +kernel
theorem dX5_atRisk_39 : decode cX5_atRisk 39 = .ok (.ifCond .ne 13, 3) := by decide +kernel
theorem dX5_atRisk_42 : decode cX5_atRisk 42 = .ok (.iload_n 3, 1) := by decide +kernel
theorem dX5_atRisk_43 : decode cX5_atRisk 43 = .ok (.ifCond .le 9, 3) := by decide +kernel
theorem dX5_atRisk_46 : decode cX5_atRisk 46 = .ok (.iload_n 1, 1) := by decide +kernel
theorem dX5_atRisk_47 : decode cX5_atRisk 47 = .ok (.iconst 1, 1) := by decide +kernel
theorem dX5_atRisk_48 : decode cX5_atRisk 48 = .ok (.iload_n 2, 1) := by decide +kernel
theorem dX5_atRisk_49 : decode cX5_atRisk 49 = .ok (.ishl, 1) := by decide +kernel
theorem dX5_atRisk_50 : decode cX5_atRisk 50 = .ok (.ior, 1) := by decide +kernel
theorem dX5_atRisk_51 : decode cX5_atRisk 51 = .ok (.istore_n 1, 1) := by decide +kernel
theorem dX5_atRisk_52 : decode cX5_atRisk 52 = .ok (.iinc 2 1, 3) := by decide +kernel
theorem dX5_atRisk_55 : decode cX5_atRisk 55 = .ok (.goto (-51), 3) := by decide +kernel
theorem dX5_atRisk_58 : decode cX5_atRisk 58 = .ok (.iload_n 1, 1) := by decide +kernel
theorem dX5_atRisk_59 : decode cX5_atRisk 59 = .ok (.ireturn, 1) := by decide +kernel
set_option maxRecDepth 20000 in
theorem ggX5_poisonShare_X0_countPoisoned : GoodIn wsX5_poisonShare wsX0_countPoisoned := goodIn_r _ [7, 8, 9, 10, 6, 11, 12, 28, 29, 30] (by decide +kernel) (by decide +kernel)
set_option maxRecDepth 20000 in
theorem gX5_poisonShare_X0_countPoisoned : GoodIn wsX5_poisonShare (wsV RX5 205 RX0 yX0_countPoisoned wsX0_countPoisoned) := goodIn_app (goodIn_of _ (by decide +kernel)) ggX5_poisonShare_X0_countPoisoned
theorem dX5_poisonShare_0 : decode cX5_poisonShare 0 = .ok (.aload_n 0, 1) := by decide +kernel
theorem dX5_poisonShare_1 : decode cX5_poisonShare 1 = .ok (.getfield 10, 3) := by decide +kernel
theorem dX5_poisonShare_4 : decode cX5_poisonShare 4 = .ok (.getfield 136, 3) := by decide +kernel
theorem dX5_poisonShare_7 : decode cX5_poisonShare 7 = .ok (.iconst 0, 1) := by decide +kernel
theorem dX5_poisonShare_8 : decode cX5_poisonShare 8 = .ok (.bipush 32, 2) := by decide +kernel
theorem dX5_poisonShare_10 : decode cX5_poisonShare 10 = .ok (.invokevirtual 205, 3) := by decide +kernel
theorem dX5_poisonShare_13 : decode cX5_poisonShare 13 = .ok (.i2f, 1) := by decide +kernel
theorem dX5_poisonShare_14 : decode cX5_poisonShare 14 = .ok (.ldc 219, 2) := by decide +kernel
theorem dX5_poisonShare_16 : decode cX5_poisonShare 16 = .ok (.fdiv, 1) := by decide +kernel
theorem dX5_poisonShare_17 : decode cX5_poisonShare 17 = .ok (.freturn, 1) := by decide +kernel
set_option maxRecDepth 20000 in
theorem ggX5_poisonedIfScrubbed_X0_countPoisoned : GoodIn wsX5_poisonedIfScrubbed wsX0_countPoisoned := goodIn_r _ [6, 7, 8, 9, 5, 10, 11, 43, 44, 45] (by decide +kernel) (by decide +kernel)
set_option maxRecDepth 20000 in
theorem gX5_poisonedIfScrubbed_X0_countPoisoned : GoodIn wsX5_poisonedIfScrubbed (wsV RX5 205 RX0 yX0_countPoisoned wsX0_countPoisoned) := goodIn_app (goodIn_of _ (by decide +kernel)) ggX5_poisonedIfScrubbed_X0_countPoisoned
set_option maxRecDepth 20000 in
theorem ggX5_poisonedIfScrubbed_X3_countHealable : GoodIn wsX5_poisonedIfScrubbed wsX3_countHealable := goodIn_r _ [15, 16, 17, 18, 13, 19, 20, 21, 22, 8, 9, 5, 10, 11, 23, 24, 25, 26, 27, 33, 34, 35, 36, 37, 38, 39, 40, 41, 42, 43, 44, 45] (by decide +kernel) (by decide +kernel)
set_option maxRecDepth 20000 in
theorem gX5_poisonedIfScrubbed_X3_countHealable_n220 : GoodIn wsX5_poisonedIfScrubbed (wsX3_countHealable) := ggX5_poisonedIfScrubbed_X3_countHealable
theorem dX5_poisonedIfScrubbed_0 : decode cX5_poisonedIfScrubbed 0 = .ok (.aload_n 0, 1) := by decide +kernel
theorem dX5_poisonedIfScrubbed_1 : decode cX5_poisonedIfScrubbed 1 = .ok (.getfield 10, 3) := by decide +kernel
theorem dX5_poisonedIfScrubbed_4 : decode cX5_poisonedIfScrubbed 4 = .ok (.getfield 136, 3) := by decide +kernel
theorem dX5_poisonedIfScrubbed_7 : decode cX5_poisonedIfScrubbed 7 = .ok (.iconst 0, 1) := by decide +kernel
theorem dX5_poisonedIfScrubbed_8 : decode cX5_poisonedIfScrubbed 8 = .ok (.bipush 32, 2) := by decide +kernel
theorem dX5_poisonedIfScrubbed_10 : decode cX5_poisonedIfScrubbed 10 = .ok (.invokevirtual 205, 3) := by decide +kernel
theorem dX5_poisonedIfScrubbed_13 : decode cX5_poisonedIfScrubbed 13 = .ok (.aload_n 0, 1) := by decide +kernel
theorem dX5_poisonedIfScrubbed_14 : decode cX5_poisonedIfScrubbed 14 = .ok (.getfield 10, 3) := by decide +kernel
theorem dX5_poisonedIfScrubbed_17 : decode cX5_poisonedIfScrubbed 17 = .ok (.iconst 0, 1) := by decide +kernel
theorem dX5_poisonedIfScrubbed_18 : decode cX5_poisonedIfScrubbed 18 = .ok (.bipush 32, 2) := by decide +kernel
theorem dX5_poisonedIfScrubbed_20 : decode cX5_poisonedIfScrubbed 20 = .ok (.invokevirtual 220, 3) := by decide +kernel
theorem dX5_poisonedIfScrubbed_23 : decode cX5_poisonedIfScrubbed 23 = .ok (.isub, 1) := by decide +kernel
theorem dX5_poisonedIfScrubbed_24 : decode cX5_poisonedIfScrubbed 24 = .ok (.ireturn, 1) := by decide +kernel
set_option maxRecDepth 20000 in
theorem ggX5_bestScrub_X3_countHealable : GoodIn wsX5_bestScrub wsX3_countHealable := goodIn_r _ [5, 6, 7, 8, 3, 9, 10, 11, 12, 13, 14, 15, 16, 17, 18, 19, 20, 21, 22, 28, 29, 30, 31, 32, 33, 34, 35, 36, 37, 38, 39, 40] (by decide +kernel) (by decide +kernel)
set_option maxRecDepth 20000 in
theorem gX5_bestScrub_X3_countHealable_n220 : GoodIn wsX5_bestScrub (wsX3_countHealable) := ggX5_bestScrub_X3_countHealable
theorem dX5_bestScrub_0 : decode cX5_bestScrub 0 = .ok (.bipush (-6), 2) := by decide +kernel
theorem dX5_bestScrub_2 : decode cX5_bestScrub 2 = .ok (.istore_n 1, 1) := by decide +kernel
theorem dX5_bestScrub_3 : decode cX5_bestScrub 3 = .ok (.iconst 0, 1) := by decide +kernel
theorem dX5_bestScrub_4 : decode cX5_bestScrub 4 = .ok (.istore_n 2, 1) := by decide +kernel
theorem dX5_bestScrub_5 : decode cX5_bestScrub 5 = .ok (.iconst 0, 1) := by decide +kernel
theorem dX5_bestScrub_6 : decode cX5_bestScrub 6 = .ok (.istore_n 3, 1) := by decide +kernel
theorem dX5_bestScrub_7 : decode cX5_bestScrub 7 = .ok (.iload_n 3, 1) := by decide +kernel
theorem dX5_bestScrub_8 : decode cX5_bestScrub 8 = .ok (.bipush 8, 2) := by decide +kernel
theorem dX5_bestScrub_10 : decode cX5_bestScrub 10 = .ok (.if_icmp .ge 37, 3) := by decide +kernel
theorem dX5_bestScrub_13 : decode cX5_bestScrub 13 = .ok (.aload_n 0, 1) := by decide +kernel
theorem dX5_bestScrub_14 : decode cX5_bestScrub 14 = .ok (.getfield 10, 3) := by decide +kernel
theorem dX5_bestScrub_17 : decode cX5_bestScrub 17 = .ok (.iload_n 3, 1) := by decide +kernel
theorem dX5_bestScrub_18 : decode cX5_bestScrub 18 = .ok (.iconst 4, 1) := by decide +kernel
theorem dX5_bestScrub_19 : decode cX5_bestScrub 19 = .ok (.imul, 1) := by decide +kernel
theorem dX5_bestScrub_20 : decode cX5_bestScrub 20 = .ok (.iload_n 3, 1) := by decide +kernel
theorem dX5_bestScrub_21 : decode cX5_bestScrub 21 = .ok (.iconst 1, 1) := by decide +kernel
theorem dX5_bestScrub_22 : decode cX5_bestScrub 22 = .ok (.iadd, 1) := by decide +kernel
theorem dX5_bestScrub_23 : decode cX5_bestScrub 23 = .ok (.iconst 4, 1) := by decide +kernel
theorem dX5_bestScrub_24 : decode cX5_bestScrub 24 = .ok (.imul, 1) := by decide +kernel
theorem dX5_bestScrub_25 : decode cX5_bestScrub 25 = .ok (.invokevirtual 220, 3) := by decide +kernel
theorem dX5_bestScrub_28 : decode cX5_bestScrub 28 = .ok (.istore 4, 2) := by decide +kernel
theorem dX5_bestScrub_30 : decode cX5_bestScrub 30 = .ok (.iload 4, 2) := by decide +kernel
theorem dX5_bestScrub_32 : decode cX5_bestScrub 32 = .ok (.iload_n 2, 1) := by decide +kernel
theorem dX5_bestScrub_33 : decode cX5_bestScrub 33 = .ok (.if_icmp .le 8, 3) := by decide +kernel
theorem dX5_bestScrub_36 : decode cX5_bestScrub 36 = .ok (.iload_n 3, 1) := by decide +kernel
theorem dX5_bestScrub_37 : decode cX5_bestScrub 37 = .ok (.istore_n 1, 1) := by decide +kernel
theorem dX5_bestScrub_38 : decode cX5_bestScrub 38 = .ok (.iload 4, 2) := by decide +kernel
theorem dX5_bestScrub_40 : decode cX5_bestScrub 40 = .ok (.istore_n 2, 1) := by decide +kernel
theorem dX5_bestScrub_41 : decode cX5_bestScrub 41 = .ok (.iinc 3 1, 3) := by decide +kernel
theorem dX5_bestScrub_44 : decode cX5_bestScrub 44 = .ok (.goto (-37), 3) := by decide +kernel
theorem dX5_bestScrub_47 : decode cX5_bestScrub 47 = .ok (.iload_n 1, 1) := by decide +kernel
theorem dX5_bestScrub_48 : decode cX5_bestScrub 48 = .ok (.ireturn, 1) := by decide +kernel
theorem dX5_isError_0 : decode cX5_isError 0 = .ok (.iload_n 0, 1) := by decide +kernel
theorem dX5_isError_1 : decode cX5_isError 1 = .ok (.ifCond .ge 13, 3) := by decide +kernel
theorem dX5_isError_4 : decode cX5_isError 4 = .ok (.iload_n 0, 1) := by decide +kernel
theorem dX5_isError_5 : decode cX5_isError 5 = .ok (.bipush (-6), 2) := by decide +kernel
theorem dX5_isError_7 : decode cX5_isError 7 = .ok (.if_icmp .le 7, 3) := by decide +kernel
theorem dX5_isError_10 : decode cX5_isError 10 = .ok (.iconst 1, 1) := by decide +kernel
theorem dX5_isError_11 : decode cX5_isError 11 = .ok (.goto 4, 3) := by decide +kernel
theorem dX5_isError_14 : decode cX5_isError 14 = .ok (.iconst 0, 1) := by decide +kernel
theorem dX5_isError_15 : decode cX5_isError 15 = .ok (.ireturn, 1) := by decide +kernel
theorem dX5_isWord_0 : decode cX5_isWord 0 = .ok (.iload_n 0, 1) := by decide +kernel
theorem dX5_isWord_1 : decode cX5_isWord 1 = .ok (.ifCond .lt 13, 3) := by decide +kernel
theorem dX5_isWord_4 : decode cX5_isWord 4 = .ok (.iload_n 0, 1) := by decide +kernel
theorem dX5_isWord_5 : decode cX5_isWord 5 = .ok (.bipush 32, 2) := by decide +kernel
theorem dX5_isWord_7 : decode cX5_isWord 7 = .ok (.if_icmp .ge 7, 3) := by decide +kernel
theorem dX5_isWord_10 : decode cX5_isWord 10 = .ok (.iconst 1, 1) := by decide +kernel
theorem dX5_isWord_11 : decode cX5_isWord 11 = .ok (.goto 4, 3) := by decide +kernel
theorem dX5_isWord_14 : decode cX5_isWord 14 = .ok (.iconst 0, 1) := by decide +kernel
theorem dX5_isWord_15 : decode cX5_isWord 15 = .ok (.ireturn, 1) := by decide +kernel
theorem dX5_isPage_0 : decode cX5_isPage 0 = .ok (.iload_n 0, 1) := by decide +kernel
theorem dX5_isPage_1 : decode cX5_isPage 1 = .ok (.ifCond .lt 13, 3) := by decide +kernel
theorem dX5_isPage_4 : decode cX5_isPage 4 = .ok (.iload_n 0, 1) := by decide +kernel
theorem dX5_isPage_5 : decode cX5_isPage 5 = .ok (.bipush 8, 2) := by decide +kernel
theorem dX5_isPage_7 : decode cX5_isPage 7 = .ok (.if_icmp .ge 7, 3) := by decide +kernel
theorem dX5_isPage_10 : decode cX5_isPage 10 = .ok (.iconst 1, 1) := by decide +kernel
theorem dX5_isPage_11 : decode cX5_isPage 11 = .ok (.goto 4, 3) := by decide +kernel
theorem dX5_isPage_14 : decode cX5_isPage 14 = .ok (.iconst 0, 1) := by decide +kernel
theorem dX5_isPage_15 : decode cX5_isPage 15 = .ok (.ireturn, 1) := by decide +kernel
theorem dX5_isTask_0 : decode cX5_isTask 0 = .ok (.iload_n 0, 1) := by decide +kernel
theorem dX5_isTask_1 : decode cX5_isTask 1 = .ok (.ifCond .lt 12, 3) := by decide +kernel
theorem dX5_isTask_4 : decode cX5_isTask 4 = .ok (.iload_n 0, 1) := by decide +kernel
theorem dX5_isTask_5 : decode cX5_isTask 5 = .ok (.iconst 4, 1) := by decide +kernel
theorem dX5_isTask_6 : decode cX5_isTask 6 = .ok (.if_icmp .ge 7, 3) := by decide +kernel
theorem dX5_isTask_9 : decode cX5_isTask 9 = .ok (.iconst 1, 1) := by decide +kernel
theorem dX5_isTask_10 : decode cX5_isTask 10 = .ok (.goto 4, 3) := by decide +kernel
theorem dX5_isTask_13 : decode cX5_isTask 13 = .ok (.iconst 0, 1) := by decide +kernel
theorem dX5_isTask_14 : decode cX5_isTask 14 = .ok (.ireturn, 1) := by decide +kernel
theorem dX5_isRegister_0 : decode cX5_isRegister 0 = .ok (.iload_n 0, 1) := by decide +kernel
theorem dX5_isRegister_1 : decode cX5_isRegister 1 = .ok (.ifCond .lt 12, 3) := by decide +kernel
theorem dX5_isRegister_4 : decode cX5_isRegister 4 = .ok (.iload_n 0, 1) := by decide +kernel
theorem dX5_isRegister_5 : decode cX5_isRegister 5 = .ok (.iconst 4, 1) := by decide +kernel
theorem dX5_isRegister_6 : decode cX5_isRegister 6 = .ok (.if_icmp .ge 7, 3) := by decide +kernel
theorem dX5_isRegister_9 : decode cX5_isRegister 9 = .ok (.iconst 1, 1) := by decide +kernel
theorem dX5_isRegister_10 : decode cX5_isRegister 10 = .ok (.goto 4, 3) := by decide +kernel
theorem dX5_isRegister_13 : decode cX5_isRegister 13 = .ok (.iconst 0, 1) := by decide +kernel
theorem dX5_isRegister_14 : decode cX5_isRegister 14 = .ok (.ireturn, 1) := by decide +kernel
theorem dX5_isPart_0 : decode cX5_isPart 0 = .ok (.iload_n 0, 1) := by decide +kernel
theorem dX5_isPart_1 : decode cX5_isPart 1 = .ok (.ifCond .lt 12, 3) := by decide +kernel
theorem dX5_isPart_4 : decode cX5_isPart 4 = .ok (.iload_n 0, 1) := by decide +kernel
theorem dX5_isPart_5 : decode cX5_isPart 5 = .ok (.iconst 2, 1) := by decide +kernel
theorem dX5_isPart_6 : decode cX5_isPart 6 = .ok (.if_icmp .ge 7, 3) := by decide +kernel
theorem dX5_isPart_9 : decode cX5_isPart 9 = .ok (.iconst 1, 1) := by decide +kernel
theorem dX5_isPart_10 : decode cX5_isPart 10 = .ok (.goto 4, 3) := by decide +kernel
theorem dX5_isPart_13 : decode cX5_isPart 13 = .ok (.iconst 0, 1) := by decide +kernel
theorem dX5_isPart_14 : decode cX5_isPart 14 = .ok (.ireturn, 1) := by decide +kernel
theorem dX5_isValue_0 : decode cX5_isValue 0 = .ok (.iload_n 0, 1) := by decide +kernel
theorem dX5_isValue_1 : decode cX5_isValue 1 = .ok (.ifCond .lt 13, 3) := by decide +kernel
theorem dX5_isValue_4 : decode cX5_isValue 4 = .ok (.iload_n 0, 1) := by decide +kernel
theorem dX5_isValue_5 : decode cX5_isValue 5 = .ok (.ldc 235, 2) := by decide +kernel
theorem dX5_isValue_7 : decode cX5_isValue 7 = .ok (.if_icmp .gt 7, 3) := by decide +kernel
theorem dX5_isValue_10 : decode cX5_isValue 10 = .ok (.iconst 1, 1) := by decide +kernel
theorem dX5_isValue_11 : decode cX5_isValue 11 = .ok (.goto 4, 3) := by decide +kernel
theorem dX5_isValue_14 : decode cX5_isValue 14 = .ok (.iconst 0, 1) := by decide +kernel
theorem dX5_isValue_15 : decode cX5_isValue 15 = .ok (.ireturn, 1) := by decide +kernel
theorem dX5_isBlockLength_0 : decode cX5_isBlockLength 0 = .ok (.iload_n 0, 1) := by decide +kernel
theorem dX5_isBlockLength_1 : decode cX5_isBlockLength 1 = .ok (.iconst 1, 1) := by decide +kernel
theorem dX5_isBlockLength_2 : decode cX5_isBlockLength 2 = .ok (.if_icmp .lt 13, 3) := by decide +kernel
theorem dX5_isBlockLength_5 : decode cX5_isBlockLength 5 = .ok (.iload_n 0, 1) := by decide +kernel
theorem dX5_isBlockLength_6 : decode cX5_isBlockLength 6 = .ok (.bipush 16, 2) := by decide +kernel
theorem dX5_isBlockLength_8 : decode cX5_isBlockLength 8 = .ok (.if_icmp .gt 7, 3) := by decide +kernel
theorem dX5_isBlockLength_11 : decode cX5_isBlockLength 11 = .ok (.iconst 1, 1) := by decide +kernel
theorem dX5_isBlockLength_12 : decode cX5_isBlockLength 12 = .ok (.goto 4, 3) := by decide +kernel
theorem dX5_isBlockLength_15 : decode cX5_isBlockLength 15 = .ok (.iconst 0, 1) := by decide +kernel
theorem dX5_isBlockLength_16 : decode cX5_isBlockLength 16 = .ok (.ireturn, 1) := by decide +kernel
theorem dX5_cellOf_0 : decode cX5_cellOf 0 = .ok (.iload_n 0, 1) := by decide +kernel
theorem dX5_cellOf_1 : decode cX5_cellOf 1 = .ok (.iconst 4, 1) := by decide +kernel
theorem dX5_cellOf_2 : decode cX5_cellOf 2 = .ok (.imul, 1) := by decide +kernel
theorem dX5_cellOf_3 : decode cX5_cellOf 3 = .ok (.iload_n 1, 1) := by decide +kernel
theorem dX5_cellOf_4 : decode cX5_cellOf 4 = .ok (.iadd, 1) := by decide +kernel
theorem dX5_cellOf_5 : decode cX5_cellOf 5 = .ok (.ireturn, 1) := by decide +kernel
theorem dX5_byteOf_0 : decode cX5_byteOf 0 = .ok (.iload_n 0, 1) := by decide +kernel
theorem dX5_byteOf_1 : decode cX5_byteOf 1 = .ok (.bipush 8, 2) := by decide +kernel
theorem dX5_byteOf_3 : decode cX5_byteOf 3 = .ok (.iload_n 1, 1) := by decide +kernel
theorem dX5_byteOf_4 : decode cX5_byteOf 4 = .ok (.imul, 1) := by decide +kernel
theorem dX5_byteOf_5 : decode cX5_byteOf 5 = .ok (.ishr, 1) := by decide +kernel
theorem dX5_byteOf_6 : decode cX5_byteOf 6 = .ok (.sipush 255, 3) := by decide +kernel
theorem dX5_byteOf_9 : decode cX5_byteOf 9 = .ok (.iand, 1) := by decide +kernel
theorem dX5_byteOf_10 : decode cX5_byteOf 10 = .ok (.ireturn, 1) := by decide +kernel
