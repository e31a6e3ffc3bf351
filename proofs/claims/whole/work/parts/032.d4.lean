theorem dX4_init_0 : decode cX4_init 0 = .ok (.aload_n 0, 1) := by decide +kernel
theorem dX4_init_1 : decode cX4_init 1 = .ok (.invokespecial 3, 3) := by decide +kernel
theorem dX4_init_4 : decode cX4_init 4 = .ok (.aload_n 0, 1) := by decide +kernel
theorem dX4_init_5 : decode cX4_init 5 = .ok (.bipush 90, 2) := by decide +kernel
theorem dX4_init_7 : decode cX4_init 7 = .ok (.newarray .char, 2) := by decide +kernel
theorem dX4_init_9 : decode cX4_init 9 = .ok (.putfield 9, 3) := by decide +kernel
theorem dX4_init_12 : decode cX4_init 12 = .ok (.aload_n 0, 1) := by decide +kernel
theorem dX4_init_13 : decode cX4_init 13 = .ok (.iconst 5, 1) := by decide +kernel
theorem dX4_init_14 : decode cX4_init 14 = .ok (.newarray .int, 2) := by decide +kernel
theorem dX4_init_16 : decode cX4_init 16 = .ok (.putfield 15, 3) := by decide +kernel
theorem dX4_init_19 : decode cX4_init 19 = .ok (.return_, 1) := by decide +kernel
theorem dX4_add_0 : decode cX4_add 0 = .ok (.aload_n 0, 1) := by decide +kernel
theorem dX4_add_1 : decode cX4_add 1 = .ok (.getfield 19, 3) := by decide +kernel
theorem dX4_add_4 : decode cX4_add 4 = .ok (.bipush 90, 2) := by decide +kernel
theorem dX4_add_6 : decode cX4_add 6 = .ok (.if_icmp .lt 6, 3) := by decide +kernel
theorem dX4_add_9 : decode cX4_add 9 = .ok (.bipush (-4), 2) := by decide +kernel
theorem dX4_add_11 : decode cX4_add 11 = .ok (.ireturn, 1) := by decide +kernel
theorem dX4_add_12 : decode cX4_add 12 = .ok (.aload_n 0, 1) := by decide +kernel
theorem dX4_add_13 : decode cX4_add 13 = .ok (.getfield 9, 3) := by decide +kernel
theorem dX4_add_16 : decode cX4_add 16 = .ok (.aload_n 0, 1) := by decide +kernel
theorem dX4_add_17 : decode cX4_add 17 = .ok (.getfield 19, 3) := by decide +kernel
theorem dX4_add_20 : decode cX4_add 20 = .ok (.iload_n 1, 1) := by decide +kernel
theorem dX4_add_21 : decode cX4_add 21 = .ok (.castore, 1) := by decide +kernel
theorem dX4_add_22 : decode cX4_add 22 = .ok (.aload_n 0, 1) := by decide +kernel
theorem dX4_add_23 : decode cX4_add 23 = .ok (.dup, 1) := by decide +kernel
theorem dX4_add_24 : decode cX4_add 24 = .ok (.getfield 19, 3) := by decide +kernel
theorem dX4_add_27 : decode cX4_add 27 = .ok (.iconst 1, 1) := by decide +kernel
theorem dX4_add_28 : decode cX4_add 28 = .ok (.iadd, 1) := by decide +kernel
theorem dX4_add_29 : decode cX4_add 29 = .ok (.putfield 19, 3) := by decide +kernel
theorem dX4_add_32 : decode cX4_add 32 = .ok (.aload_n 0, 1) := by decide +kernel
theorem dX4_add_33 : decode cX4_add 33 = .ok (.getfield 19, 3) := by decide +kernel
theorem dX4_add_36 : decode cX4_add 36 = .ok (.ireturn, 1) := by decide +kernel
theorem dX4_empty_0 : decode cX4_empty 0 = .ok (.aload_n 0, 1) := by decide +kernel
theorem dX4_empty_1 : decode cX4_empty 1 = .ok (.getfield 19, 3) := by decide +kernel
theorem dX4_empty_4 : decode cX4_empty 4 = .ok (.istore_n 1, 1) := by decide +kernel
theorem dX4_empty_5 : decode cX4_empty 5 = .ok (.aload_n 0, 1) := by decide +kernel
theorem dX4_empty_6 : decode cX4_empty 6 = .ok (.iconst 0, 1) := by decide +kernel
theorem dX4_empty_7 : decode cX4_empty 7 = .ok (.putfield 19, 3) := by decide +kernel
theorem dX4_empty_10 : decode cX4_empty 10 = .ok (.iload_n 1, 1) := by decide +kernel
theorem dX4_empty_11 : decode cX4_empty 11 = .ok (.ireturn, 1) := by decide +kernel
theorem dX4_rewind_0 : decode cX4_rewind 0 = .ok (.aload_n 0, 1) := by decide +kernel
theorem dX4_rewind_1 : decode cX4_rewind 1 = .ok (.iconst 0, 1) := by decide +kernel
theorem dX4_rewind_2 : decode cX4_rewind 2 = .ok (.putfield 23, 3) := by decide +kernel
theorem dX4_rewind_5 : decode cX4_rewind 5 = .ok (.return_, 1) := by decide +kernel
set_option maxRecDepth 20000 in
theorem ggX4_findFault_X4_rewind : GoodIn wsX4_findFault wsX4_rewind := goodIn_r _ [7, 1, 97, 98, 99, 100, 101, 102] (by decide +kernel) (by decide +kernel)
set_option maxRecDepth 20000 in
theorem gX4_findFault_X4_rewind : GoodIn wsX4_findFault (wsV RX4 26 RX4 yX4_rewind wsX4_rewind) := goodIn_app (goodIn_of _ (by decide +kernel)) ggX4_findFault_X4_rewind
set_option maxRecDepth 20000 in
theorem ggX4_findFault_X4_readOperation : GoodIn wsX4_findFault wsX4_readOperation := goodIn_r _ [11, 1, 2, 12, 13, 14, 15, 16, 6, 17, 18, 19, 20, 21, 22, 23, 24, 25, 26, 27, 28, 29, 30, 31, 32, 33, 34, 35, 36, 37, 38, 39, 40, 41, 42, 43, 44, 45, 46, 47, 48, 49, 50, 51, 52, 53, 54, 55, 56, 57, 58, 59, 60, 61, 62, 63, 64, 65, 66, 67, 68, 69, 70, 71, 72, 73, 74, 75, 76, 77, 78, 79, 80, 81, 82, 83, 84, 85, 86, 87, 88, 89, 90, 91, 92, 93, 94, 95, 96, 97, 98, 99, 100, 101, 102] (by decide +kernel) (by decide +kernel)
set_option maxRecDepth 20000 in
theorem gX4_findFault_X4_readOperation : GoodIn wsX4_findFault (wsV RX4 29 RX4 yX4_readOperation wsX4_readOperation) := goodIn_app (goodIn_of _ (by decide +kernel)) ggX4_findFault_X4_readOperation
set_option maxRecDepth 20000 in
theorem ggX4_findFault_X4_readSign : GoodIn wsX4_findFault wsX4_readSign := goodIn_r _ [96, 1, 2, 12, 97, 98, 99, 100, 101, 102] (by decide +kernel) (by decide +kernel)
set_option maxRecDepth 20000 in
theorem gX4_findFault_X4_readSign : GoodIn wsX4_findFault (wsV RX4 33 RX4 yX4_readSign wsX4_readSign) := goodIn_app (goodIn_of _ (by decide +kernel)) ggX4_findFault_X4_readSign
theorem dX4_findFault_0 : decode cX4_findFault 0 = .ok (.aload_n 0, 1) := by decide +kernel
theorem dX4_findFault_1 : decode cX4_findFault 1 = .ok (.invokevirtual 26, 3) := by decide +kernel
theorem dX4_findFault_4 : decode cX4_findFault 4 = .ok (.iconst 0, 1) := by decide +kernel
theorem dX4_findFault_5 : decode cX4_findFault 5 = .ok (.istore_n 1, 1) := by decide +kernel
theorem dX4_findFault_6 : decode cX4_findFault 6 = .ok (.iload_n 1, 1) := by decide +kernel
theorem dX4_findFault_7 : decode cX4_findFault 7 = .ok (.bipush 90, 2) := by decide +kernel
theorem dX4_findFault_9 : decode cX4_findFault 9 = .ok (.if_icmp .ge 49, 3) := by decide +kernel
theorem dX4_findFault_12 : decode cX4_findFault 12 = .ok (.aload_n 0, 1) := by decide +kernel
theorem dX4_findFault_13 : decode cX4_findFault 13 = .ok (.invokevirtual 29, 3) := by decide +kernel
theorem dX4_findFault_16 : decode cX4_findFault 16 = .ok (.ifCond .ne 8, 3) := by decide +kernel
theorem dX4_findFault_19 : decode cX4_findFault 19 = .ok (.aload_n 0, 1) := by decide +kernel
theorem dX4_findFault_20 : decode cX4_findFault 20 = .ok (.getfield 23, 3) := by decide +kernel
theorem dX4_findFault_23 : decode cX4_findFault 23 = .ok (.ireturn, 1) := by decide +kernel
theorem dX4_findFault_24 : decode cX4_findFault 24 = .ok (.aload_n 0, 1) := by decide +kernel
theorem dX4_findFault_25 : decode cX4_findFault 25 = .ok (.getfield 23, 3) := by decide +kernel
theorem dX4_findFault_28 : decode cX4_findFault 28 = .ok (.aload_n 0, 1) := by decide +kernel
theorem dX4_findFault_29 : decode cX4_findFault 29 = .ok (.getfield 19, 3) := by decide +kernel
theorem dX4_findFault_32 : decode cX4_findFault 32 = .ok (.if_icmp .lt 6, 3) := by decide +kernel
theorem dX4_findFault_35 : decode cX4_findFault 35 = .ok (.bipush (-6), 2) := by decide +kernel
theorem dX4_findFault_37 : decode cX4_findFault 37 = .ok (.ireturn, 1) := by decide +kernel
theorem dX4_findFault_38 : decode cX4_findFault 38 = .ok (.aload_n 0, 1) := by decide +kernel
theorem dX4_findFault_39 : decode cX4_findFault 39 = .ok (.bipush 59, 2) := by decide +kernel
theorem dX4_findFault_41 : decode cX4_findFault 41 = .ok (.invokevirtual 33, 3) := by decide +kernel
theorem dX4_findFault_44 : decode cX4_findFault 44 = .ok (.ifCond .ne 8, 3) := by decide +kernel
theorem dX4_findFault_47 : decode cX4_findFault 47 = .ok (.aload_n 0, 1) := by decide +kernel
theorem dX4_findFault_48 : decode cX4_findFault 48 = .ok (.getfield 23, 3) := by decide +kernel
theorem dX4_findFault_51 : decode cX4_findFault 51 = .ok (.ireturn, 1) := by decide +kernel
theorem dX4_findFault_52 : decode cX4_findFault 52 = .ok (.iinc 1 1, 3) := by decide +kernel
theorem dX4_findFault_55 : decode cX4_findFault 55 = .ok (.goto (-49), 3) := by decide +kernel
theorem dX4_findFault_58 : decode cX4_findFault 58 = .ok (.aload_n 0, 1) := by decide +kernel
theorem dX4_findFault_59 : decode cX4_findFault 59 = .ok (.getfield 23, 3) := by decide +kernel
theorem dX4_findFault_62 : decode cX4_findFault 62 = .ok (.ireturn, 1) := by decide +kernel
set_option maxRecDepth 20000 in
theorem ggX4_readNext_X4_readSign : GoodIn wsX4_readNext wsX4_readSign := goodIn_r _ [6, 1, 7, 8, 93, 94, 95, 96, 97, 98] (by decide +kernel) (by decide +kernel)
set_option maxRecDepth 20000 in
theorem gX4_readNext_X4_readSign : GoodIn wsX4_readNext (wsV RX4 33 RX4 yX4_readSign wsX4_readSign) := goodIn_app (goodIn_of _ (by decide +kernel)) ggX4_readNext_X4_readSign
set_option maxRecDepth 20000 in
theorem ggX4_readNext_X4_readOperation : GoodIn wsX4_readNext wsX4_readOperation := goodIn_r _ [12, 1, 7, 8, 13, 14, 15, 16, 5, 17, 18, 19, 20, 21, 22, 23, 24, 25, 26, 27, 28, 29, 30, 31, 32, 33, 34, 35, 36, 37, 38, 39, 40, 41, 42, 43, 44, 45, 46, 47, 48, 49, 50, 51, 52, 53, 54, 55, 56, 57, 58, 59, 60, 61, 62, 63, 64, 65, 66, 67, 68, 69, 70, 71, 72, 73, 74, 75, 76, 77, 78, 79, 80, 81, 82, 83, 84, 85, 86, 87, 88, 89, 90, 91, 92, 2, 3, 4, 6, 93, 94, 95, 96, 97, 98] (by decide +kernel) (by decide +kernel)
set_option maxRecDepth 20000 in
theorem gX4_readNext_X4_readOperation : GoodIn wsX4_readNext (wsV RX4 29 RX4 yX4_readOperation wsX4_readOperation) := goodIn_app (goodIn_of _ (by decide +kernel)) ggX4_readNext_X4_readOperation
theorem dX4_readNext_0 : decode cX4_readNext 0 = .ok (.aload_n 0, 1) := by decide +kernel
theorem dX4_readNext_1 : decode cX4_readNext 1 = .ok (.getfield 23, 3) := by decide +kernel
theorem dX4_readNext_4 : decode cX4_readNext 4 = .ok (.ifCond .le 14, 3) := by decide +kernel
theorem dX4_readNext_7 : decode cX4_readNext 7 = .ok (.aload_n 0, 1) := by decide +kernel
theorem dX4_readNext_8 : decode cX4_readNext 8 = .ok (.bipush 59, 2) := by decide +kernel
theorem dX4_readNext_10 : decode cX4_readNext 10 = .ok (.invokevirtual 33, 3) := by decide +kernel
theorem dX4_readNext_13 : decode cX4_readNext 13 = .ok (.ifCond .ne 5, 3) := by decide +kernel
theorem dX4_readNext_16 : decode cX4_readNext 16 = .ok (.iconst 0, 1) := by decide +kernel
theorem dX4_readNext_17 : decode cX4_readNext 17 = .ok (.ireturn, 1) := by decide +kernel
theorem dX4_readNext_18 : decode cX4_readNext 18 = .ok (.aload_n 0, 1) := by decide +kernel
theorem dX4_readNext_19 : decode cX4_readNext 19 = .ok (.invokevirtual 29, 3) := by decide +kernel
theorem dX4_readNext_22 : decode cX4_readNext 22 = .ok (.ireturn, 1) := by decide +kernel
set_option maxRecDepth 20000 in
theorem ggX4_readOperation_X4_shapeOf : GoodIn wsX4_readOperation wsX4_shapeOf := goodIn_r _ [9] (by decide +kernel) (by decide +kernel)
set_option maxRecDepth 20000 in
theorem gX4_readOperation_X4_shapeOf : GoodIn wsX4_readOperation (va_wsS RX4 40 yX4_shapeOf wsX4_shapeOf) := goodIn_app (goodIn_of _ (by decide +kernel)) ggX4_readOperation_X4_shapeOf
set_option maxRecDepth 20000 in
theorem ggX4_readOperation_J0_isEmpty_aae02 : GoodIn wsX4_readOperation wsJ0_isEmpty_aae02 := goodIn_r _ [14, 15] (by decide +kernel) (by decide +kernel)
set_option maxRecDepth 20000 in
theorem gX4_readOperation_J0_isEmpty_aae02 : GoodIn wsX4_readOperation (wsV RX4 44 RJ0 yJ0_isEmpty_aae02 wsJ0_isEmpty_aae02) := goodIn_app (goodIn_of _ (by decide +kernel)) ggX4_readOperation_J0_isEmpty_aae02
set_option maxRecDepth 20000 in
theorem ggX4_readOperation_J0_length_8abf5 : GoodIn wsX4_readOperation wsJ0_length_8abf5 := goodIn_r _ [19, 15, 20, 21, 22, 13, 23, 24, 25] (by decide +kernel) (by decide +kernel)
set_option maxRecDepth 20000 in
theorem gX4_readOperation_J0_length_8abf5 : GoodIn wsX4_readOperation (wsV RX4 52 RJ0 yJ0_length_8abf5 wsJ0_length_8abf5) := goodIn_app (goodIn_of _ (by decide +kernel)) ggX4_readOperation_J0_length_8abf5
set_option maxRecDepth 20000 in
theorem ggX4_readOperation_J0_charAt_5068e : GoodIn wsX4_readOperation wsJ0_charAt_5068e := goodIn_r _ [29, 15, 30, 31, 32, 13, 33, 24, 25, 34, 35, 36, 37, 38, 39, 40, 41, 42, 43, 44, 45, 46, 47, 48, 49, 50, 51, 52, 53, 54, 55, 56, 57, 58, 59, 60, 61, 62] (by decide +kernel) (by decide +kernel)
set_option maxRecDepth 20000 in
theorem gX4_readOperation_J0_charAt_5068e : GoodIn wsX4_readOperation (wsV RX4 55 RJ0 yJ0_charAt_5068e wsJ0_charAt_5068e) := goodIn_app (goodIn_of _ (by decide +kernel)) ggX4_readOperation_J0_charAt_5068e
set_option maxRecDepth 20000 in
theorem ggX4_readOperation_X4_readItem : GoodIn wsX4_readOperation wsX4_readItem := goodIn_r _ [66, 67, 68, 69, 70, 8, 71, 1, 72, 73, 74, 75, 2, 3, 76, 77, 78, 79, 5, 80, 81, 82, 83, 84, 85, 86, 87, 88, 89, 90, 91, 92, 93, 94] (by decide +kernel) (by decide +kernel)
set_option maxRecDepth 20000 in
theorem gX4_readOperation_X4_readItem : GoodIn wsX4_readOperation (wsV RX4 59 RX4 yX4_readItem wsX4_readItem) := goodIn_app (goodIn_of _ (by decide +kernel)) ggX4_readOperation_X4_readItem
theorem dX4_readOperation_0 : decode cX4_readOperation 0 = .ok (.aload_n 0, 1) := by decide +kernel
theorem dX4_readOperation_1 : decode cX4_readOperation 1 = .ok (.aload_n 0, 1) := by decide +kernel
theorem dX4_readOperation_2 : decode cX4_readOperation 2 = .ok (.getfield 23, 3) := by decide +kernel
theorem dX4_readOperation_5 : decode cX4_readOperation 5 = .ok (.aload_n 0, 1) := by decide +kernel
theorem dX4_readOperation_6 : decode cX4_readOperation 6 = .ok (.getfield 19, 3) := by decide +kernel
theorem dX4_readOperation_9 : decode cX4_readOperation 9 = .ok (.if_icmp .ge 15, 3) := by decide +kernel
theorem dX4_readOperation_12 : decode cX4_readOperation 12 = .ok (.aload_n 0, 1) := by decide +kernel
theorem dX4_readOperation_13 : decode cX4_readOperation 13 = .ok (.getfield 9, 3) := by decide +kernel
theorem dX4_readOperation_16 : decode cX4_readOperation 16 = .ok (.aload_n 0, 1) := by decide +kernel
theorem dX4_readOperation_17 : decode cX4_readOperation 17 = .ok (.getfield 23, 3) := by decide +kernel
theorem dX4_readOperation_20 : decode cX4_readOperation 20 = .ok (.caload, 1) := by decide +kernel
theorem dX4_readOperation_21 : decode cX4_readOperation 21 = .ok (.goto 4, 3) := by decide +kernel
theorem dX4_readOperation_24 : decode cX4_readOperation 24 = .ok (.iconst 0, 1) := by decide +kernel
theorem dX4_readOperation_25 : decode cX4_readOperation 25 = .ok (.putfield 37, 3) := by decide +kernel
theorem dX4_readOperation_28 : decode cX4_readOperation 28 = .ok (.aload_n 0, 1) := by decide +kernel
theorem dX4_readOperation_29 : decode cX4_readOperation 29 = .ok (.getfield 37, 3) := by decide +kernel
theorem dX4_readOperation_32 : decode cX4_readOperation 32 = .ok (.invokestatic 40, 3) := by decide +kernel
theorem dX4_readOperation_35 : decode cX4_readOperation 35 = .ok (.astore_n 1, 1) := by decide +kernel
theorem dX4_readOperation_36 : decode cX4_readOperation 36 = .ok (.aload_n 1, 1) := by decide +kernel
theorem dX4_readOperation_37 : decode cX4_readOperation 37 = .ok (.invokevirtual 44, 3) := by decide +kernel
theorem dX4_readOperation_40 : decode cX4_readOperation 40 = .ok (.ifCond .eq 5, 3) := by decide +kernel
theorem dX4_readOperation_43 : decode cX4_readOperation 43 = .ok (.iconst 0, 1) := by decide +kernel
theorem dX4_readOperation_44 : decode cX4_readOperation 44 = .ok (.ireturn, 1) := by decide +kernel
theorem dX4_readOperation_45 : decode cX4_readOperation 45 = .ok (.aload_n 0, 1) := by decide +kernel
theorem dX4_readOperation_46 : decode cX4_readOperation 46 = .ok (.dup, 1) := by decide +kernel
theorem dX4_readOperation_47 : decode cX4_readOperation 47 = .ok (.getfield 23, 3) := by decide +kernel
theorem dX4_readOperation_50 : decode cX4_readOperation 50 = .ok (.iconst 1, 1) := by decide +kernel
theorem dX4_readOperation_51 : decode cX4_readOperation 51 = .ok (.iadd, 1) := by decide +kernel
theorem dX4_readOperation_52 : decode cX4_readOperation 52 = .ok (.putfield 23, 3) := by decide +kernel
theorem dX4_readOperation_55 : decode cX4_readOperation 55 = .ok (.aload_n 0, 1) := by decide +kernel
theorem dX4_readOperation_56 : decode cX4_readOperation 56 = .ok (.iconst 0, 1) := by decide +kernel
theorem dX4_readOperation_57 : decode cX4_readOperation 57 = .ok (.putfield 49, 3) := by decide +kernel
theorem dX4_readOperation_60 : decode cX4_readOperation 60 = .ok (.iconst 0, 1) := by decide +kernel
theorem dX4_readOperation_61 : decode cX4_readOperation 61 = .ok (.istore_n 2, 1) := by decide +kernel
theorem dX4_readOperation_62 : decode cX4_readOperation 62 = .ok (.iload_n 2, 1) := by decide +kernel
theorem dX4_readOperation_63 : decode cX4_readOperation 63 = .ok (.aload_n 1, 1) := by decide +kernel
theorem dX4_readOperation_64 : decode cX4_readOperation 64 = .ok (.invokevirtual 52, 3) := by decide +kernel
theorem dX4_readOperation_67 : decode cX4_readOperation 67 = .ok (.if_icmp .ge 23, 3) := by decide +kernel
theorem dX4_readOperation_70 : decode cX4_readOperation 70 = .ok (.aload_n 0, 1) := by decide +kernel
theorem dX4_readOperation_71 : decode cX4_readOperation 71 = .ok (.aload_n 1, 1) := by decide +kernel
theorem dX4_readOperation_72 : decode cX4_readOperation 72 = .ok (.iload_n 2, 1) := by decide +kernel
theorem dX4_readOperation_73 : decode cX4_readOperation 73 = .ok (.invokevirtual 55, 3) := by decide +kernel
theorem dX4_readOperation_76 : decode cX4_readOperation 76 = .ok (.invokevirtual 59, 3) := by decide +kernel
theorem dX4_readOperation_79 : decode cX4_readOperation 79 = .ok (.ifCond .ne 5, 3) := by decide +kernel
theorem dX4_readOperation_82 : decode cX4_readOperation 82 = .ok (.iconst 0, 1) := by decide +kernel
theorem dX4_readOperation_83 : decode cX4_readOperation 83 = .ok (.ireturn, 1) := by decide +kernel
theorem dX4_readOperation_84 : decode cX4_readOperation 84 = .ok (.iinc 2 1, 3) := by decide +kernel
theorem dX4_readOperation_87 : decode cX4_readOperation 87 = .ok (.goto (-25), 3) := by decide +kernel
theorem dX4_readOperation_90 : decode cX4_readOperation 90 = .ok (.iconst 1, 1) := by decide +kernel
theorem dX4_readOperation_91 : decode cX4_readOperation 91 = .ok (.ireturn, 1) := by decide +kernel
theorem dX4_shapeOf_0 : decode cX4_shapeOf 0 = .ok (.iload_n 0, 1) := by decide +kernel
theorem dX4_shapeOf_1 : decode cX4_shapeOf 1 = .ok (.tableswitch 121 65 86 #[109, 121, 121, 121, 121, 121, 121, 121, 115, 121, 121, 103, 106, 121, 112, 121, 121, 121, 103, 121, 121, 118], 103) := by decide +kernel
theorem dX4_shapeOf_104 : decode cX4_shapeOf 104 = .ok (.ldc 62, 2) := by decide +kernel
theorem dX4_shapeOf_106 : decode cX4_shapeOf 106 = .ok (.areturn, 1) := by decide +kernel
theorem dX4_shapeOf_107 : decode cX4_shapeOf 107 = .ok (.ldc 64, 2) := by decide +kernel
theorem dX4_shapeOf_109 : decode cX4_shapeOf 109 = .ok (.areturn, 1) := by decide +kernel
theorem dX4_shapeOf_110 : decode cX4_shapeOf 110 = .ok (.ldc 66, 2) := by decide +kernel
theorem dX4_shapeOf_112 : decode cX4_shapeOf 112 = .ok (.areturn, 1) := by decide +kernel
theorem dX4_shapeOf_113 : decode cX4_shapeOf 113 = .ok (.ldc 68, 2) := by decide +kernel
theorem dX4_shapeOf_115 : decode cX4_shapeOf 115 = .ok (.areturn, 1) := by decide +kernel
theorem dX4_shapeOf_116 : decode cX4_shapeOf 116 = .ok (.ldc 70, 2) := by decide +kernel
theorem dX4_shapeOf_118 : decode cX4_shapeOf 118 = .ok (.areturn, 1) := by decide +kernel
theorem dX4_shapeOf_119 : decode cX4_shapeOf 119 = .ok (.ldc 72, 2) := by decide +kernel
theorem dX4_shapeOf_121 : decode cX4_shapeOf 121 = .ok (.areturn, 1) := by decide +kernel
theorem dX4_shapeOf_122 : decode cX4_shapeOf 122 = .ok (.ldc 74, 2) := by decide +kernel
theorem dX4_shapeOf_124 : decode cX4_shapeOf 124 = .ok (.areturn, 1) := by decide +kernel
set_option maxRecDepth 20000 in
theorem ggX4_readItem_X4_readDigit : GoodIn wsX4_readItem wsX4_readDigit := goodIn_r _ [6, 7, 8, 9, 10, 5, 11, 12, 13, 14, 15, 16, 17, 18, 19, 28, 29, 30, 31, 32, 33] (by decide +kernel) (by decide +kernel)
set_option maxRecDepth 20000 in
theorem gX4_readItem_X4_readDigit : GoodIn wsX4_readItem (wsV RX4 76 RX4 yX4_readDigit wsX4_readDigit) := goodIn_app (goodIn_of _ (by decide +kernel)) ggX4_readItem_X4_readDigit
set_option maxRecDepth 20000 in
theorem ggX4_readItem_X4_readNumber : GoodIn wsX4_readItem wsX4_readNumber := goodIn_r _ [23, 7, 8, 9, 10, 5, 11, 12, 13, 14, 15, 16, 17, 18, 19, 28, 29, 30, 31, 32, 33] (by decide +kernel) (by decide +kernel)
set_option maxRecDepth 20000 in
theorem gX4_readItem_X4_readNumber : GoodIn wsX4_readItem (wsV RX4 79 RX4 yX4_readNumber wsX4_readNumber) := goodIn_app (goodIn_of _ (by decide +kernel)) ggX4_readItem_X4_readNumber
set_option maxRecDepth 20000 in
theorem ggX4_readItem_X4_readSign : GoodIn wsX4_readItem wsX4_readSign := goodIn_r _ [27, 7, 12, 13, 28, 29, 30, 31, 32, 33] (by decide +kernel) (by decide +kernel)
set_option maxRecDepth 20000 in
theorem gX4_readItem_X4_readSign : GoodIn wsX4_readItem (wsV RX4 33 RX4 yX4_readSign wsX4_readSign) := goodIn_app (goodIn_of _ (by decide +kernel)) ggX4_readItem_X4_readSign
theorem dX4_readItem_0 : decode cX4_readItem 0 = .ok (.iload_n 1, 1) := by decide +kernel
theorem dX4_readItem_1 : decode cX4_readItem 1 = .ok (.lookupswitch 54 #[(100, 35), (110, 47), (119, 40)], 35) := by decide +kernel
theorem dX4_readItem_36 : decode cX4_readItem 36 = .ok (.aload_n 0, 1) := by decide +kernel
theorem dX4_readItem_37 : decode cX4_readItem 37 = .ok (.invokevirtual 76, 3) := by decide +kernel
theorem dX4_readItem_40 : decode cX4_readItem 40 = .ok (.ireturn, 1) := by decide +kernel
theorem dX4_readItem_41 : decode cX4_readItem 41 = .ok (.aload_n 0, 1) := by decide +kernel
theorem dX4_readItem_42 : decode cX4_readItem 42 = .ok (.bipush 31, 2) := by decide +kernel
theorem dX4_readItem_44 : decode cX4_readItem 44 = .ok (.invokevirtual 79, 3) := by decide +kernel
theorem dX4_readItem_47 : decode cX4_readItem 47 = .ok (.ireturn, 1) := by decide +kernel
theorem dX4_readItem_48 : decode cX4_readItem 48 = .ok (.aload_n 0, 1) := by decide +kernel
theorem dX4_readItem_49 : decode cX4_readItem 49 = .ok (.ldc 83, 2) := by decide +kernel
theorem dX4_readItem_51 : decode cX4_readItem 51 = .ok (.invokevirtual 79, 3) := by decide +kernel
theorem dX4_readItem_54 : decode cX4_readItem 54 = .ok (.ireturn, 1) := by decide +kernel
theorem dX4_readItem_55 : decode cX4_readItem 55 = .ok (.aload_n 0, 1) := by decide +kernel
theorem dX4_readItem_56 : decode cX4_readItem 56 = .ok (.iload_n 1, 1) := by decide +kernel
theorem dX4_readItem_57 : decode cX4_readItem 57 = .ok (.invokevirtual 33, 3) := by decide +kernel
theorem dX4_readItem_60 : decode cX4_readItem 60 = .ok (.ireturn, 1) := by decide +kernel
theorem dX4_readSign_0 : decode cX4_readSign 0 = .ok (.aload_n 0, 1) := by decide +kernel
theorem dX4_readSign_1 : decode cX4_readSign 1 = .ok (.getfield 23, 3) := by decide +kernel
theorem dX4_readSign_4 : decode cX4_readSign 4 = .ok (.aload_n 0, 1) := by decide +kernel
theorem dX4_readSign_5 : decode cX4_readSign 5 = .ok (.getfield 19, 3) := by decide +kernel
theorem dX4_readSign_8 : decode cX4_readSign 8 = .ok (.if_icmp .ge 16, 3) := by decide +kernel
theorem dX4_readSign_11 : decode cX4_readSign 11 = .ok (.aload_n 0, 1) := by decide +kernel
theorem dX4_readSign_12 : decode cX4_readSign 12 = .ok (.getfield 9, 3) := by decide +kernel
theorem dX4_readSign_15 : decode cX4_readSign 15 = .ok (.aload_n 0, 1) := by decide +kernel
theorem dX4_readSign_16 : decode cX4_readSign 16 = .ok (.getfield 23, 3) := by decide +kernel
theorem dX4_readSign_19 : decode cX4_readSign 19 = .ok (.caload, 1) := by decide +kernel
theorem dX4_readSign_20 : decode cX4_readSign 20 = .ok (.iload_n 1, 1) := by decide +kernel
theorem dX4_readSign_21 : decode cX4_readSign 21 = .ok (.if_icmp .eq 5, 3) := by decide +kernel
theorem dX4_readSign_24 : decode cX4_readSign 24 = .ok (.iconst 0, 1) := by decide +kernel
theorem dX4_readSign_25 : decode cX4_readSign 25 = .ok (.ireturn, 1) := by decide +kernel
theorem dX4_readSign_26 : decode cX4_readSign 26 = .ok (.aload_n 0, 1) := by decide +kernel
theorem dX4_readSign_27 : decode cX4_readSign 27 = .ok (.dup, 1) := by decide +kernel
theorem dX4_readSign_28 : decode cX4_readSign 28 = .ok (.getfield 23, 3) := by decide +kernel
theorem dX4_readSign_31 : decode cX4_readSign 31 = .ok (.iconst 1, 1) := by decide +kernel
theorem dX4_readSign_32 : decode cX4_readSign 32 = .ok (.iadd, 1) := by decide +kernel
theorem dX4_readSign_33 : decode cX4_readSign 33 = .ok (.putfield 23, 3) := by decide +kernel
theorem dX4_readSign_36 : decode cX4_readSign 36 = .ok (.iconst 1, 1) := by decide +kernel
theorem dX4_readSign_37 : decode cX4_readSign 37 = .ok (.ireturn, 1) := by decide +kernel
set_option maxRecDepth 20000 in
theorem ggX4_readDigit_X4_digitHere : GoodIn wsX4_readDigit wsX4_digitHere := goodIn_r _ [6, 1, 7, 8, 15, 16, 17, 18, 19, 20] (by decide +kernel) (by decide +kernel)
set_option maxRecDepth 20000 in
theorem gX4_readDigit_X4_digitHere : GoodIn wsX4_readDigit (wsV RX4 84 RX4 yX4_digitHere wsX4_digitHere) := goodIn_app (goodIn_of _ (by decide +kernel)) ggX4_readDigit_X4_digitHere
set_option maxRecDepth 20000 in
theorem ggX4_readDigit_X4_addPart : GoodIn wsX4_readDigit wsX4_addPart := goodIn_r _ [12, 13, 14, 15, 16, 17, 18, 19, 20] (by decide +kernel) (by decide +kernel)
set_option maxRecDepth 20000 in
theorem gX4_readDigit_X4_addPart : GoodIn wsX4_readDigit (wsV RX4 87 RX4 yX4_addPart wsX4_addPart) := goodIn_app (goodIn_of _ (by decide +kernel)) ggX4_readDigit_X4_addPart
theorem dX4_readDigit_0 : decode cX4_readDigit 0 = .ok (.aload_n 0, 1) := by decide +kernel
theorem dX4_readDigit_1 : decode cX4_readDigit 1 = .ok (.invokevirtual 84, 3) := by decide +kernel
theorem dX4_readDigit_4 : decode cX4_readDigit 4 = .ok (.istore_n 1, 1) := by decide +kernel
theorem dX4_readDigit_5 : decode cX4_readDigit 5 = .ok (.iload_n 1, 1) := by decide +kernel
theorem dX4_readDigit_6 : decode cX4_readDigit 6 = .ok (.ifCond .lt 8, 3) := by decide +kernel
theorem dX4_readDigit_9 : decode cX4_readDigit 9 = .ok (.iload_n 1, 1) := by decide +kernel
theorem dX4_readDigit_10 : decode cX4_readDigit 10 = .ok (.iconst 4, 1) := by decide +kernel
theorem dX4_readDigit_11 : decode cX4_readDigit 11 = .ok (.if_icmp .lt 5, 3) := by decide +kernel
theorem dX4_readDigit_14 : decode cX4_readDigit 14 = .ok (.iconst 0, 1) := by decide +kernel
theorem dX4_readDigit_15 : decode cX4_readDigit 15 = .ok (.ireturn, 1) := by decide +kernel
theorem dX4_readDigit_16 : decode cX4_readDigit 16 = .ok (.aload_n 0, 1) := by decide +kernel
theorem dX4_readDigit_17 : decode cX4_readDigit 17 = .ok (.dup, 1) := by decide +kernel
theorem dX4_readDigit_18 : decode cX4_readDigit 18 = .ok (.getfield 23, 3) := by decide +kernel
theorem dX4_readDigit_21 : decode cX4_readDigit 21 = .ok (.iconst 1, 1) := by decide +kernel
theorem dX4_readDigit_22 : decode cX4_readDigit 22 = .ok (.iadd, 1) := by decide +kernel
theorem dX4_readDigit_23 : decode cX4_readDigit 23 = .ok (.putfield 23, 3) := by decide +kernel
theorem dX4_readDigit_26 : decode cX4_readDigit 26 = .ok (.aload_n 0, 1) := by decide +kernel
theorem dX4_readDigit_27 : decode cX4_readDigit 27 = .ok (.iload_n 1, 1) := by decide +kernel
theorem dX4_readDigit_28 : decode cX4_readDigit 28 = .ok (.invokevirtual 87, 3) := by decide +kernel
theorem dX4_readDigit_31 : decode cX4_readDigit 31 = .ok (.iconst 1, 1) := by decide +kernel
theorem dX4_readDigit_32 : decode cX4_readDigit 32 = .ok (.ireturn, 1) := by decide +kernel
set_option maxRecDepth 20000 in
theorem ggX4_readNumber_X4_digitHere : GoodIn wsX4_readNumber wsX4_digitHere := goodIn_r _ [6, 1, 7, 8, 15, 16, 17, 18, 19, 20] (by decide +kernel) (by decide +kernel)
set_option maxRecDepth 20000 in
theorem gX4_readNumber_X4_digitHere : GoodIn wsX4_readNumber (wsV RX4 84 RX4 yX4_digitHere wsX4_digitHere) := goodIn_app (goodIn_of _ (by decide +kernel)) ggX4_readNumber_X4_digitHere
set_option maxRecDepth 20000 in
theorem ggX4_readNumber_X4_addPart : GoodIn wsX4_readNumber wsX4_addPart := goodIn_r _ [12, 13, 14, 15, 16, 17, 18, 19, 20] (by decide +kernel) (by decide +kernel)
set_option maxRecDepth 20000 in
theorem gX4_readNumber_X4_addPart : GoodIn wsX4_readNumber (wsV RX4 87 RX4 yX4_addPart wsX4_addPart) := goodIn_app (goodIn_of _ (by decide +kernel)) ggX4_readNumber_X4_addPart
theorem dX4_readNumber_0 : decode cX4_readNumber 0 = .ok (.aload_n 0, 1) := by decide +kernel
theorem dX4_readNumber_1 : decode cX4_readNumber 1 = .ok (.invokevirtual 84, 3) := by decide +kernel
theorem dX4_readNumber_4 : decode cX4_readNumber 4 = .ok (.istore_n 2, 1) := by decide +kernel
theorem dX4_readNumber_5 : decode cX4_readNumber 5 = .ok (.iload_n 2, 1) := by decide +kernel
theorem dX4_readNumber_6 : decode cX4_readNumber 6 = .ok (.ifCond .ge 5, 3) := by decide +kernel
theorem dX4_readNumber_9 : decode cX4_readNumber 9 = .ok (.iconst 0, 1) := by decide +kernel
theorem dX4_readNumber_10 : decode cX4_readNumber 10 = .ok (.ireturn, 1) := by decide +kernel
theorem dX4_readNumber_11 : decode cX4_readNumber 11 = .ok (.iload_n 2, 1) := by decide +kernel
theorem dX4_readNumber_12 : decode cX4_readNumber 12 = .ok (.istore_n 3, 1) := by decide +kernel
theorem dX4_readNumber_13 : decode cX4_readNumber 13 = .ok (.aload_n 0, 1) := by decide +kernel
theorem dX4_readNumber_14 : decode cX4_readNumber 14 = .ok (.dup, 1) := by decide +kernel
theorem dX4_readNumber_15 : decode cX4_readNumber 15 = .ok (.getfield 23, 3) := by decide +kernel
theorem dX4_readNumber_18 : decode cX4_readNumber 18 = .ok (.iconst 1, 1) := by decide +kernel
theorem dX4_readNumber_19 : decode cX4_readNumber 19 = .ok (.iadd, 1) := by decide +kernel
theorem dX4_readNumber_20 : decode cX4_readNumber 20 = .ok (.putfield 23, 3) := by decide +kernel
theorem dX4_readNumber_23 : decode cX4_readNumber 23 = .ok (.iconst 0, 1) := by decide +kernel
theorem dX4_readNumber_24 : decode cX4_readNumber 24 = .ok (.istore 4, 2) := by decide +kernel
theorem dX4_readNumber_26 : decode cX4_readNumber 26 = .ok (.iload 4, 2) := by decide +kernel
theorem dX4_readNumber_28 : decode cX4_readNumber 28 = .ok (.bipush 90, 2) := by decide +kernel
theorem dX4_readNumber_30 : decode cX4_readNumber 30 = .ok (.if_icmp .ge 52, 3) := by decide +kernel
theorem dX4_readNumber_33 : decode cX4_readNumber 33 = .ok (.aload_n 0, 1) := by decide +kernel
theorem dX4_readNumber_34 : decode cX4_readNumber 34 = .ok (.invokevirtual 84, 3) := by decide +kernel
theorem dX4_readNumber_37 : decode cX4_readNumber 37 = .ok (.istore_n 2, 1) := by decide +kernel
theorem dX4_readNumber_38 : decode cX4_readNumber 38 = .ok (.iload_n 2, 1) := by decide +kernel
theorem dX4_readNumber_39 : decode cX4_readNumber 39 = .ok (.ifCond .lt 43, 3) := by decide +kernel
theorem dX4_readNumber_42 : decode cX4_readNumber 42 = .ok (.iload_n 3, 1) := by decide +kernel
theorem dX4_readNumber_43 : decode cX4_readNumber 43 = .ok (.ifCond .eq 39, 3) := by decide +kernel
theorem dX4_readNumber_46 : decode cX4_readNumber 46 = .ok (.iload_n 3, 1) := by decide +kernel
theorem dX4_readNumber_47 : decode cX4_readNumber 47 = .ok (.bipush 10, 2) := by decide +kernel
theorem dX4_readNumber_49 : decode cX4_readNumber 49 = .ok (.imul, 1) := by decide +kernel
theorem dX4_readNumber_50 : decode cX4_readNumber 50 = .ok (.iload_n 2, 1) := by decide +kernel
theorem dX4_readNumber_51 : decode cX4_readNumber 51 = .ok (.iadd, 1) := by decide +kernel
theorem dX4_readNumber_52 : decode cX4_readNumber 52 = .ok (.iload_n 1, 1) := by decide +kernel
theorem dX4_readNumber_53 : decode cX4_readNumber 53 = .ok (.if_icmp .le 6, 3) := by decide +kernel
theorem dX4_readNumber_56 : decode cX4_readNumber 56 = .ok (.goto 26, 3) := by decide +kernel
theorem dX4_readNumber_59 : decode cX4_readNumber 59 = .ok (.iload_n 3, 1) := by decide +kernel
theorem dX4_readNumber_60 : decode cX4_readNumber 60 = .ok (.bipush 10, 2) := by decide +kernel
theorem dX4_readNumber_62 : decode cX4_readNumber 62 = .ok (.imul, 1) := by decide +kernel
theorem dX4_readNumber_63 : decode cX4_readNumber 63 = .ok (.iload_n 2, 1) := by decide +kernel
theorem dX4_readNumber_64 : decode cX4_readNumber 64 = .ok (.iadd, 1) := by decide +kernel
theorem dX4_readNumber_65 : decode cX4_readNumber 65 = .ok (.istore_n 3, 1) := by decide +kernel
theorem dX4_readNumber_66 : decode cX4_readNumber 66 = .ok (.aload_n 0, 1) := by decide +kernel
theorem dX4_readNumber_67 : decode cX4_readNumber 67 = .ok (.dup, 1) := by decide +kernel
theorem dX4_readNumber_68 : decode cX4_readNumber 68 = .ok (.getfield 23, 3) := by decide +kernel
theorem dX4_readNumber_71 : decode cX4_readNumber 71 = .ok (.iconst 1, 1) := by decide +kernel
theorem dX4_readNumber_72 : decode cX4_readNumber 72 = .ok (.iadd, 1) := by decide +kernel
theorem dX4_readNumber_73 : decode cX4_readNumber 73 = .ok (.putfield 23, 3) := by decide +kernel
theorem dX4_readNumber_76 : decode cX4_readNumber 76 = .ok (.iinc 4 1, 3) := by decide +kernel
theorem dX4_readNumber_79 : decode cX4_readNumber 79 = .ok (.goto (-53), 3) := by decide +kernel
theorem dX4_readNumber_82 : decode cX4_readNumber 82 = .ok (.aload_n 0, 1) := by decide +kernel
theorem dX4_readNumber_83 : decode cX4_readNumber 83 = .ok (.iload_n 3, 1) := by decide +kernel
theorem dX4_readNumber_84 : decode cX4_readNumber 84 = .ok (.invokevirtual 87, 3) := by decide +kernel
theorem dX4_readNumber_87 : decode cX4_readNumber 87 = .ok (.iconst 1, 1) := by decide +kernel
theorem dX4_readNumber_88 : decode cX4_readNumber 88 = .ok (.ireturn, 1) := by decide +kernel
theorem dX4_digitHere_0 : decode cX4_digitHere 0 = .ok (.aload_n 0, 1) := by decide +kernel
theorem dX4_digitHere_1 : decode cX4_digitHere 1 = .ok (.getfield 23, 3) := by decide +kernel
theorem dX4_digitHere_4 : decode cX4_digitHere 4 = .ok (.aload_n 0, 1) := by decide +kernel
theorem dX4_digitHere_5 : decode cX4_digitHere 5 = .ok (.getfield 19, 3) := by decide +kernel
theorem dX4_digitHere_8 : decode cX4_digitHere 8 = .ok (.if_icmp .lt 6, 3) := by decide +kernel
theorem dX4_digitHere_11 : decode cX4_digitHere 11 = .ok (.bipush (-6), 2) := by decide +kernel
theorem dX4_digitHere_13 : decode cX4_digitHere 13 = .ok (.ireturn, 1) := by decide +kernel
theorem dX4_digitHere_14 : decode cX4_digitHere 14 = .ok (.aload_n 0, 1) := by decide +kernel
theorem dX4_digitHere_15 : decode cX4_digitHere 15 = .ok (.getfield 9, 3) := by decide +kernel
theorem dX4_digitHere_18 : decode cX4_digitHere 18 = .ok (.aload_n 0, 1) := by decide +kernel
theorem dX4_digitHere_19 : decode cX4_digitHere 19 = .ok (.getfield 23, 3) := by decide +kernel
theorem dX4_digitHere_22 : decode cX4_digitHere 22 = .ok (.caload, 1) := by decide +kernel
theorem dX4_digitHere_23 : decode cX4_digitHere 23 = .ok (.istore_n 1, 1) := by decide +kernel
theorem dX4_digitHere_24 : decode cX4_digitHere 24 = .ok (.iload_n 1, 1) := by decide +kernel
theorem dX4_digitHere_25 : decode cX4_digitHere 25 = .ok (.bipush 48, 2) := by decide +kernel
theorem dX4_digitHere_27 : decode cX4_digitHere 27 = .ok (.if_icmp .lt 16, 3) := by decide +kernel
theorem dX4_digitHere_30 : decode cX4_digitHere 30 = .ok (.iload_n 1, 1) := by decide +kernel
theorem dX4_digitHere_31 : decode cX4_digitHere 31 = .ok (.bipush 57, 2) := by decide +kernel
theorem dX4_digitHere_33 : decode cX4_digitHere 33 = .ok (.if_icmp .gt 10, 3) := by decide +kernel
theorem dX4_digitHere_36 : decode cX4_digitHere 36 = .ok (.iload_n 1, 1) := by decide +kernel
theorem dX4_digitHere_37 : decode cX4_digitHere 37 = .ok (.bipush 48, 2) := by decide +kernel
theorem dX4_digitHere_39 : decode cX4_digitHere 39 = .ok (.isub, 1) := by decide +kernel
theorem dX4_digitHere_40 : decode cX4_digitHere 40 = .ok (.goto 5, 3) := by decide +kernel
theorem dX4_digitHere_43 : decode cX4_digitHere 43 = .ok (.bipush (-6), 2) := by decide +kernel
theorem dX4_digitHere_45 : decode cX4_digitHere 45 = .ok (.ireturn, 1) := by decide +kernel
theorem dX4_addPart_0 : decode cX4_addPart 0 = .ok (.aload_n 0, 1) := by decide +kernel
theorem dX4_addPart_1 : decode cX4_addPart 1 = .ok (.getfield 49, 3) := by decide +kernel
theorem dX4_addPart_4 : decode cX4_addPart 4 = .ok (.iconst 5, 1) := by decide +kernel
theorem dX4_addPart_5 : decode cX4_addPart 5 = .ok (.if_icmp .ge 23, 3) := by decide +kernel
theorem dX4_addPart_8 : decode cX4_addPart 8 = .ok (.aload_n 0, 1) := by decide +kernel
theorem dX4_addPart_9 : decode cX4_addPart 9 = .ok (.getfield 15, 3) := by decide +kernel
theorem dX4_addPart_12 : decode cX4_addPart 12 = .ok (.aload_n 0, 1) := by decide +kernel
theorem dX4_addPart_13 : decode cX4_addPart 13 = .ok (.getfield 49, 3) := by decide +kernel
theorem dX4_addPart_16 : decode cX4_addPart 16 = .ok (.iload_n 1, 1) := by decide +kernel
theorem dX4_addPart_17 : decode cX4_addPart 17 = .ok (.iastore, 1) := by decide +kernel
theorem dX4_addPart_18 : decode cX4_addPart 18 = .ok (.aload_n 0, 1) := by decide +kernel
theorem dX4_addPart_19 : decode cX4_addPart 19 = .ok (.dup, 1) := by decide +kernel
theorem dX4_addPart_20 : decode cX4_addPart 20 = .ok (.getfield 49, 3) := by decide +kernel
theorem dX4_addPart_23 : decode cX4_addPart 23 = .ok (.iconst 1, 1) := by decide +kernel
theorem dX4_addPart_24 : decode cX4_addPart 24 = .ok (.iadd, 1) := by decide +kernel
theorem dX4_addPart_25 : decode cX4_addPart 25 = .ok (.putfield 49, 3) := by decide +kernel
theorem dX4_addPart_28 : decode cX4_addPart 28 = .ok (.return_, 1) := by decide +kernel
