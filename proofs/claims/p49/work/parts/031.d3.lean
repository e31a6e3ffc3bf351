set_option maxRecDepth 20000 in
theorem ggX3_init_X0_init : GoodIn wsX3_init wsX0_init := goodIn_r _ [22, 23, 2, 3, 12, 24, 25, 26, 27, 28, 29, 30, 35, 36, 37] (by decide +kernel) (by decide +kernel)
set_option maxRecDepth 20000 in
theorem gX3_init_X0_init : GoodIn wsX3_init (wsX0_init) := ggX3_init_X0_init
set_option maxRecDepth 20000 in
theorem ggX3_init_X1_init : GoodIn wsX3_init wsX1_init := goodIn_r _ [32, 33, 2, 3, 12, 34, 48, 49, 50] (by decide +kernel) (by decide +kernel)
set_option maxRecDepth 20000 in
theorem gX3_init_X1_init_n42 : GoodIn wsX3_init (wsX1_init) := ggX3_init_X1_init
theorem dX3_init_0 : decode cX3_init 0 = .ok (.aload_n 0, 1) := by decide +kernel
theorem dX3_init_1 : decode cX3_init 1 = .ok (.invokespecial 3, 3) := by decide +kernel
theorem dX3_init_4 : decode cX3_init 4 = .ok (.aload_n 0, 1) := by decide +kernel
theorem dX3_init_5 : decode cX3_init 5 = .ok (.new 9, 3) := by decide +kernel
theorem dX3_init_8 : decode cX3_init 8 = .ok (.dup, 1) := by decide +kernel
theorem dX3_init_9 : decode cX3_init 9 = .ok (.bipush 32, 2) := by decide +kernel
theorem dX3_init_11 : decode cX3_init 11 = .ok (.invokespecial 11, 3) := by decide +kernel
theorem dX3_init_14 : decode cX3_init 14 = .ok (.putfield 14, 3) := by decide +kernel
theorem dX3_init_17 : decode cX3_init 17 = .ok (.aload_n 0, 1) := by decide +kernel
theorem dX3_init_18 : decode cX3_init 18 = .ok (.new 9, 3) := by decide +kernel
theorem dX3_init_21 : decode cX3_init 21 = .ok (.dup, 1) := by decide +kernel
theorem dX3_init_22 : decode cX3_init 22 = .ok (.bipush 32, 2) := by decide +kernel
theorem dX3_init_24 : decode cX3_init 24 = .ok (.invokespecial 11, 3) := by decide +kernel
theorem dX3_init_27 : decode cX3_init 27 = .ok (.putfield 20, 3) := by decide +kernel
theorem dX3_init_30 : decode cX3_init 30 = .ok (.aload_n 0, 1) := by decide +kernel
theorem dX3_init_31 : decode cX3_init 31 = .ok (.new 9, 3) := by decide +kernel
theorem dX3_init_34 : decode cX3_init 34 = .ok (.dup, 1) := by decide +kernel
theorem dX3_init_35 : decode cX3_init 35 = .ok (.bipush 16, 2) := by decide +kernel
theorem dX3_init_37 : decode cX3_init 37 = .ok (.invokespecial 11, 3) := by decide +kernel
theorem dX3_init_40 : decode cX3_init 40 = .ok (.putfield 23, 3) := by decide +kernel
theorem dX3_init_43 : decode cX3_init 43 = .ok (.aload_n 0, 1) := by decide +kernel
theorem dX3_init_44 : decode cX3_init 44 = .ok (.bipush 8, 2) := by decide +kernel
theorem dX3_init_46 : decode cX3_init 46 = .ok (.newarray .boolean, 2) := by decide +kernel
theorem dX3_init_48 : decode cX3_init 48 = .ok (.putfield 26, 3) := by decide +kernel
theorem dX3_init_51 : decode cX3_init 51 = .ok (.aload_n 0, 1) := by decide +kernel
theorem dX3_init_52 : decode cX3_init 52 = .ok (.iconst 4, 1) := by decide +kernel
theorem dX3_init_53 : decode cX3_init 53 = .ok (.newarray .int, 2) := by decide +kernel
theorem dX3_init_55 : decode cX3_init 55 = .ok (.putfield 30, 3) := by decide +kernel
theorem dX3_init_58 : decode cX3_init 58 = .ok (.aload_n 0, 1) := by decide +kernel
theorem dX3_init_59 : decode cX3_init 59 = .ok (.iconst 4, 1) := by decide +kernel
theorem dX3_init_60 : decode cX3_init 60 = .ok (.newarray .boolean, 2) := by decide +kernel
theorem dX3_init_62 : decode cX3_init 62 = .ok (.putfield 34, 3) := by decide +kernel
theorem dX3_init_65 : decode cX3_init 65 = .ok (.aload_n 0, 1) := by decide +kernel
theorem dX3_init_66 : decode cX3_init 66 = .ok (.bipush 20, 2) := by decide +kernel
theorem dX3_init_68 : decode cX3_init 68 = .ok (.newarray .int, 2) := by decide +kernel
theorem dX3_init_70 : decode cX3_init 70 = .ok (.putfield 37, 3) := by decide +kernel
theorem dX3_init_73 : decode cX3_init 73 = .ok (.aload_n 0, 1) := by decide +kernel
theorem dX3_init_74 : decode cX3_init 74 = .ok (.new 40, 3) := by decide +kernel
theorem dX3_init_77 : decode cX3_init 77 = .ok (.dup, 1) := by decide +kernel
theorem dX3_init_78 : decode cX3_init 78 = .ok (.invokespecial 42, 3) := by decide +kernel
theorem dX3_init_81 : decode cX3_init 81 = .ok (.putfield 43, 3) := by decide +kernel
theorem dX3_init_84 : decode cX3_init 84 = .ok (.return_, 1) := by decide +kernel
set_option maxRecDepth 20000 in
theorem ggX3_become_X0_become : GoodIn wsX3_become wsX0_become := goodIn_r _ [19, 20, 21, 6, 7, 8, 22, 23, 47, 48, 49] (by decide +kernel) (by decide +kernel)
set_option maxRecDepth 20000 in
theorem gX3_become_X0_become : GoodIn wsX3_become (wsV RX3 47 RX0 yX0_become wsX0_become) := goodIn_app (goodIn_of _ (by decide +kernel)) ggX3_become_X0_become
set_option maxRecDepth 20000 in
theorem ggX3_become_X3_copyFlags : GoodIn wsX3_become wsX3_copyFlags := goodIn_r _ [27] (by decide +kernel) (by decide +kernel)
set_option maxRecDepth 20000 in
theorem gX3_become_X3_copyFlags : GoodIn wsX3_become (va_wsS RX3 57 yX3_copyFlags wsX3_copyFlags) := goodIn_app (goodIn_of _ (by decide +kernel)) ggX3_become_X3_copyFlags
set_option maxRecDepth 20000 in
theorem ggX3_become_X1_become : GoodIn wsX3_become wsX1_become := goodIn_r _ [32, 33, 34, 6, 7, 8, 35, 36, 50, 51, 52] (by decide +kernel) (by decide +kernel)
set_option maxRecDepth 20000 in
theorem gX3_become_X1_become : GoodIn wsX3_become (wsV RX3 61 RX1 yX1_become wsX1_become) := goodIn_app (goodIn_of _ (by decide +kernel)) ggX3_become_X1_become
theorem dX3_become_0 : decode cX3_become 0 = .ok (.aload_n 0, 1) := by decide +kernel
theorem dX3_become_1 : decode cX3_become 1 = .ok (.getfield 14, 3) := by decide +kernel
theorem dX3_become_4 : decode cX3_become 4 = .ok (.aload_n 1, 1) := by decide +kernel
theorem dX3_become_5 : decode cX3_become 5 = .ok (.getfield 14, 3) := by decide +kernel
theorem dX3_become_8 : decode cX3_become 8 = .ok (.invokevirtual 47, 3) := by decide +kernel
theorem dX3_become_11 : decode cX3_become 11 = .ok (.aload_n 0, 1) := by decide +kernel
theorem dX3_become_12 : decode cX3_become 12 = .ok (.getfield 20, 3) := by decide +kernel
theorem dX3_become_15 : decode cX3_become 15 = .ok (.aload_n 1, 1) := by decide +kernel
theorem dX3_become_16 : decode cX3_become 16 = .ok (.getfield 20, 3) := by decide +kernel
theorem dX3_become_19 : decode cX3_become 19 = .ok (.invokevirtual 47, 3) := by decide +kernel
theorem dX3_become_22 : decode cX3_become 22 = .ok (.aload_n 0, 1) := by decide +kernel
theorem dX3_become_23 : decode cX3_become 23 = .ok (.getfield 23, 3) := by decide +kernel
theorem dX3_become_26 : decode cX3_become 26 = .ok (.aload_n 1, 1) := by decide +kernel
theorem dX3_become_27 : decode cX3_become 27 = .ok (.getfield 23, 3) := by decide +kernel
theorem dX3_become_30 : decode cX3_become 30 = .ok (.invokevirtual 47, 3) := by decide +kernel
theorem dX3_become_33 : decode cX3_become 33 = .ok (.aload_n 1, 1) := by decide +kernel
theorem dX3_become_34 : decode cX3_become 34 = .ok (.getfield 30, 3) := by decide +kernel
theorem dX3_become_37 : decode cX3_become 37 = .ok (.iconst 0, 1) := by decide +kernel
theorem dX3_become_38 : decode cX3_become 38 = .ok (.aload_n 0, 1) := by decide +kernel
theorem dX3_become_39 : decode cX3_become 39 = .ok (.getfield 30, 3) := by decide +kernel
theorem dX3_become_42 : decode cX3_become 42 = .ok (.iconst 0, 1) := by decide +kernel
theorem dX3_become_43 : decode cX3_become 43 = .ok (.iconst 4, 1) := by decide +kernel
theorem dX3_become_44 : decode cX3_become 44 = .ok (.invokestatic 51, 3) := by decide +kernel
theorem dX3_become_47 : decode cX3_become 47 = .ok (.aload_n 1, 1) := by decide +kernel
theorem dX3_become_48 : decode cX3_become 48 = .ok (.getfield 37, 3) := by decide +kernel
theorem dX3_become_51 : decode cX3_become 51 = .ok (.iconst 0, 1) := by decide +kernel
theorem dX3_become_52 : decode cX3_become 52 = .ok (.aload_n 0, 1) := by decide +kernel
theorem dX3_become_53 : decode cX3_become 53 = .ok (.getfield 37, 3) := by decide +kernel
theorem dX3_become_56 : decode cX3_become 56 = .ok (.iconst 0, 1) := by decide +kernel
theorem dX3_become_57 : decode cX3_become 57 = .ok (.bipush 20, 2) := by decide +kernel
theorem dX3_become_59 : decode cX3_become 59 = .ok (.invokestatic 51, 3) := by decide +kernel
theorem dX3_become_62 : decode cX3_become 62 = .ok (.aload_n 1, 1) := by decide +kernel
theorem dX3_become_63 : decode cX3_become 63 = .ok (.getfield 26, 3) := by decide +kernel
theorem dX3_become_66 : decode cX3_become 66 = .ok (.aload_n 0, 1) := by decide +kernel
theorem dX3_become_67 : decode cX3_become 67 = .ok (.getfield 26, 3) := by decide +kernel
theorem dX3_become_70 : decode cX3_become 70 = .ok (.invokestatic 57, 3) := by decide +kernel
theorem dX3_become_73 : decode cX3_become 73 = .ok (.aload_n 1, 1) := by decide +kernel
theorem dX3_become_74 : decode cX3_become 74 = .ok (.getfield 34, 3) := by decide +kernel
theorem dX3_become_77 : decode cX3_become 77 = .ok (.aload_n 0, 1) := by decide +kernel
theorem dX3_become_78 : decode cX3_become 78 = .ok (.getfield 34, 3) := by decide +kernel
theorem dX3_become_81 : decode cX3_become 81 = .ok (.invokestatic 57, 3) := by decide +kernel
theorem dX3_become_84 : decode cX3_become 84 = .ok (.aload_n 0, 1) := by decide +kernel
theorem dX3_become_85 : decode cX3_become 85 = .ok (.getfield 43, 3) := by decide +kernel
theorem dX3_become_88 : decode cX3_become 88 = .ok (.aload_n 1, 1) := by decide +kernel
theorem dX3_become_89 : decode cX3_become 89 = .ok (.getfield 43, 3) := by decide +kernel
theorem dX3_become_92 : decode cX3_become 92 = .ok (.invokevirtual 61, 3) := by decide +kernel
theorem dX3_become_95 : decode cX3_become 95 = .ok (.aload_n 0, 1) := by decide +kernel
theorem dX3_become_96 : decode cX3_become 96 = .ok (.aload_n 1, 1) := by decide +kernel
theorem dX3_become_97 : decode cX3_become 97 = .ok (.getfield 64, 3) := by decide +kernel
theorem dX3_become_100 : decode cX3_become 100 = .ok (.putfield 64, 3) := by decide +kernel
theorem dX3_become_103 : decode cX3_become 103 = .ok (.aload_n 0, 1) := by decide +kernel
theorem dX3_become_104 : decode cX3_become 104 = .ok (.aload_n 1, 1) := by decide +kernel
theorem dX3_become_105 : decode cX3_become 105 = .ok (.getfield 68, 3) := by decide +kernel
theorem dX3_become_108 : decode cX3_become 108 = .ok (.putfield 68, 3) := by decide +kernel
theorem dX3_become_111 : decode cX3_become 111 = .ok (.return_, 1) := by decide +kernel
theorem dX3_copyFlags_0 : decode cX3_copyFlags 0 = .ok (.iconst 0, 1) := by decide +kernel
theorem dX3_copyFlags_1 : decode cX3_copyFlags 1 = .ok (.istore_n 2, 1) := by decide +kernel
theorem dX3_copyFlags_2 : decode cX3_copyFlags 2 = .ok (.iload_n 2, 1) := by decide +kernel
theorem dX3_copyFlags_3 : decode cX3_copyFlags 3 = .ok (.aload_n 0, 1) := by decide +kernel
theorem dX3_copyFlags_4 : decode cX3_copyFlags 4 = .ok (.arraylength, 1) := by decide +kernel
theorem dX3_copyFlags_5 : decode cX3_copyFlags 5 = .ok (.if_icmp .ge 21, 3) := by decide +kernel
theorem dX3_copyFlags_8 : decode cX3_copyFlags 8 = .ok (.iload_n 2, 1) := by decide +kernel
theorem dX3_copyFlags_9 : decode cX3_copyFlags 9 = .ok (.aload_n 1, 1) := by decide +kernel
theorem dX3_copyFlags_10 : decode cX3_copyFlags 10 = .ok (.arraylength, 1) := by decide +kernel
theorem dX3_copyFlags_11 : decode cX3_copyFlags 11 = .ok (.if_icmp .ge 15, 3) := by decide +kernel
theorem dX3_copyFlags_14 : decode cX3_copyFlags 14 = .ok (.aload_n 1, 1) := by decide +kernel
theorem dX3_copyFlags_15 : decode cX3_copyFlags 15 = .ok (.iload_n 2, 1) := by decide +kernel
theorem dX3_copyFlags_16 : decode cX3_copyFlags 16 = .ok (.aload_n 0, 1) := by decide +kernel
theorem dX3_copyFlags_17 : decode cX3_copyFlags 17 = .ok (.iload_n 2, 1) := by decide +kernel
theorem dX3_copyFlags_18 : decode cX3_copyFlags 18 = .ok (.baload, 1) := by decide +kernel
theorem dX3_copyFlags_19 : decode cX3_copyFlags 19 = .ok (.bastore, 1) := by decide +kernel
theorem dX3_copyFlags_20 : decode cX3_copyFlags 20 = .ok (.iinc 2 1, 3) := by decide +kernel
theorem dX3_copyFlags_23 : decode cX3_copyFlags 23 = .ok (.goto (-21), 3) := by decide +kernel
theorem dX3_copyFlags_26 : decode cX3_copyFlags 26 = .ok (.return_, 1) := by decide +kernel
set_option maxRecDepth 20000 in
theorem ggX3_injectWord_X5_isWord : GoodIn wsX3_injectWord wsX5_isWord := goodIn_r _ [6] (by decide +kernel) (by decide +kernel)
set_option maxRecDepth 20000 in
theorem gX3_injectWord_X5_isWord_n71 : GoodIn wsX3_injectWord (wsX5_isWord) := ggX3_injectWord_X5_isWord
set_option maxRecDepth 20000 in
theorem ggX3_injectWord_X0_setMark : GoodIn wsX3_injectWord wsX0_setMark := goodIn_r _ [11, 12, 13, 24, 25, 26] (by decide +kernel) (by decide +kernel)
set_option maxRecDepth 20000 in
theorem gX3_injectWord_X0_setMark : GoodIn wsX3_injectWord (wsV RX3 75 RX0 yX0_setMark wsX0_setMark) := goodIn_app (goodIn_of _ (by decide +kernel)) ggX3_injectWord_X0_setMark
theorem dX3_injectWord_0 : decode cX3_injectWord 0 = .ok (.iload_n 1, 1) := by decide +kernel
theorem dX3_injectWord_1 : decode cX3_injectWord 1 = .ok (.invokestatic 71, 3) := by decide +kernel
theorem dX3_injectWord_4 : decode cX3_injectWord 4 = .ok (.ifCond .ne 5, 3) := by decide +kernel
theorem dX3_injectWord_7 : decode cX3_injectWord 7 = .ok (.iconst (-1), 1) := by decide +kernel
theorem dX3_injectWord_8 : decode cX3_injectWord 8 = .ok (.ireturn, 1) := by decide +kernel
theorem dX3_injectWord_9 : decode cX3_injectWord 9 = .ok (.aload_n 0, 1) := by decide +kernel
theorem dX3_injectWord_10 : decode cX3_injectWord 10 = .ok (.getfield 64, 3) := by decide +kernel
theorem dX3_injectWord_13 : decode cX3_injectWord 13 = .ok (.bipush 20, 2) := by decide +kernel
theorem dX3_injectWord_15 : decode cX3_injectWord 15 = .ok (.if_icmp .lt 6, 3) := by decide +kernel
theorem dX3_injectWord_18 : decode cX3_injectWord 18 = .ok (.bipush (-4), 2) := by decide +kernel
theorem dX3_injectWord_20 : decode cX3_injectWord 20 = .ok (.ireturn, 1) := by decide +kernel
theorem dX3_injectWord_21 : decode cX3_injectWord 21 = .ok (.aload_n 0, 1) := by decide +kernel
theorem dX3_injectWord_22 : decode cX3_injectWord 22 = .ok (.getfield 64, 3) := by decide +kernel
theorem dX3_injectWord_25 : decode cX3_injectWord 25 = .ok (.istore_n 2, 1) := by decide +kernel
theorem dX3_injectWord_26 : decode cX3_injectWord 26 = .ok (.aload_n 0, 1) := by decide +kernel
theorem dX3_injectWord_27 : decode cX3_injectWord 27 = .ok (.getfield 37, 3) := by decide +kernel
theorem dX3_injectWord_30 : decode cX3_injectWord 30 = .ok (.iload_n 2, 1) := by decide +kernel
theorem dX3_injectWord_31 : decode cX3_injectWord 31 = .ok (.iload_n 1, 1) := by decide +kernel
theorem dX3_injectWord_32 : decode cX3_injectWord 32 = .ok (.iastore, 1) := by decide +kernel
theorem dX3_injectWord_33 : decode cX3_injectWord 33 = .ok (.aload_n 0, 1) := by decide +kernel
theorem dX3_injectWord_34 : decode cX3_injectWord 34 = .ok (.dup, 1) := by decide +kernel
theorem dX3_injectWord_35 : decode cX3_injectWord 35 = .ok (.getfield 64, 3) := by decide +kernel
theorem dX3_injectWord_38 : decode cX3_injectWord 38 = .ok (.iconst 1, 1) := by decide +kernel
theorem dX3_injectWord_39 : decode cX3_injectWord 39 = .ok (.iadd, 1) := by decide +kernel
theorem dX3_injectWord_40 : decode cX3_injectWord 40 = .ok (.putfield 64, 3) := by decide +kernel
theorem dX3_injectWord_43 : decode cX3_injectWord 43 = .ok (.aload_n 0, 1) := by decide +kernel
theorem dX3_injectWord_44 : decode cX3_injectWord 44 = .ok (.getfield 14, 3) := by decide +kernel
theorem dX3_injectWord_47 : decode cX3_injectWord 47 = .ok (.iload_n 1, 1) := by decide +kernel
theorem dX3_injectWord_48 : decode cX3_injectWord 48 = .ok (.iload_n 2, 1) := by decide +kernel
theorem dX3_injectWord_49 : decode cX3_injectWord 49 = .ok (.iconst 0, 1) := by decide +kernel
theorem dX3_injectWord_50 : decode cX3_injectWord 50 = .ok (.invokevirtual 75, 3) := by decide +kernel
theorem dX3_injectWord_53 : decode cX3_injectWord 53 = .ok (.iload_n 2, 1) := by decide +kernel
theorem dX3_injectWord_54 : decode cX3_injectWord 54 = .ok (.ireturn, 1) := by decide +kernel
set_option maxRecDepth 20000 in
theorem ggX3_copyWords_X5_isWord : GoodIn wsX3_copyWords wsX5_isWord := goodIn_r _ [4] (by decide +kernel) (by decide +kernel)
set_option maxRecDepth 20000 in
theorem gX3_copyWords_X5_isWord_n71 : GoodIn wsX3_copyWords (wsX5_isWord) := ggX3_copyWords_X5_isWord
set_option maxRecDepth 20000 in
theorem ggX3_copyWords_X5_isBlockLength : GoodIn wsX3_copyWords wsX5_isBlockLength := goodIn_r _ [6] (by decide +kernel) (by decide +kernel)
set_option maxRecDepth 20000 in
theorem gX3_copyWords_X5_isBlockLength_n79 : GoodIn wsX3_copyWords (wsX5_isBlockLength) := ggX3_copyWords_X5_isBlockLength
set_option maxRecDepth 20000 in
theorem ggX3_copyWords_X3_fetch : GoodIn wsX3_copyWords wsX3_fetch := goodIn_r _ [11, 1, 12, 13, 14, 15, 16, 10, 17, 18, 19, 20, 21, 22, 23, 24, 25, 26, 27, 28, 29, 30, 31, 32, 33, 34, 35, 36, 37, 38, 60, 61, 62, 63, 64, 65, 66, 67, 68, 69, 70, 71, 72] (by decide +kernel) (by decide +kernel)
set_option maxRecDepth 20000 in
theorem gX3_copyWords_X3_fetch : GoodIn wsX3_copyWords (wsV RX3 82 RX3 yX3_fetch wsX3_fetch) := goodIn_app (goodIn_of _ (by decide +kernel)) ggX3_copyWords_X3_fetch
set_option maxRecDepth 20000 in
theorem ggX3_copyWords_X0_setEqual : GoodIn wsX3_copyWords wsX0_setEqual := goodIn_r _ [32, 33, 23, 34, 35, 36, 37, 21, 38, 70, 71, 72] (by decide +kernel) (by decide +kernel)
set_option maxRecDepth 20000 in
theorem gX3_copyWords_X0_setEqual : GoodIn wsX3_copyWords (wsV RX3 85 RX0 yX0_setEqual wsX0_setEqual) := goodIn_app (goodIn_of _ (by decide +kernel)) ggX3_copyWords_X0_setEqual
set_option maxRecDepth 20000 in
theorem ggX3_copyWords_X3_putMarked : GoodIn wsX3_copyWords wsX3_putMarked := goodIn_r _ [42, 1, 43, 44, 45, 21, 46, 23, 34, 47, 48, 49, 50, 51, 19, 20, 22, 35, 36, 37, 38, 52, 53, 54, 10, 55, 12, 24, 25, 26, 27, 28, 29, 30, 31, 32, 33, 60, 61, 62, 63, 64, 65, 66, 67, 68, 69, 70, 71, 72] (by decide +kernel) (by decide +kernel)
set_option maxRecDepth 20000 in
theorem gX3_copyWords_X3_putMarked : GoodIn wsX3_copyWords (wsV RX3 92 RX3 yX3_putMarked wsX3_putMarked) := goodIn_app (goodIn_of _ (by decide +kernel)) ggX3_copyWords_X3_putMarked
set_option maxRecDepth 20000 in
theorem ggX3_copyWords_X0_countPoisoned : GoodIn wsX3_copyWords wsX0_countPoisoned := goodIn_r _ [59, 51, 19, 20, 21, 22, 23, 70, 71, 72] (by decide +kernel) (by decide +kernel)
set_option maxRecDepth 20000 in
theorem gX3_copyWords_X0_countPoisoned : GoodIn wsX3_copyWords (wsV RX3 96 RX0 yX0_countPoisoned wsX0_countPoisoned) := goodIn_app (goodIn_of _ (by decide +kernel)) ggX3_copyWords_X0_countPoisoned
theorem dX3_copyWords_0 : decode cX3_copyWords 0 = .ok (.iload_n 1, 1) := by decide +kernel
theorem dX3_copyWords_1 : decode cX3_copyWords 1 = .ok (.invokestatic 71, 3) := by decide +kernel
theorem dX3_copyWords_4 : decode cX3_copyWords 4 = .ok (.ifCond .eq 10, 3) := by decide +kernel
theorem dX3_copyWords_7 : decode cX3_copyWords 7 = .ok (.iload_n 2, 1) := by decide +kernel
theorem dX3_copyWords_8 : decode cX3_copyWords 8 = .ok (.invokestatic 71, 3) := by decide +kernel
theorem dX3_copyWords_11 : decode cX3_copyWords 11 = .ok (.ifCond .ne 5, 3) := by decide +kernel
theorem dX3_copyWords_14 : decode cX3_copyWords 14 = .ok (.iconst (-1), 1) := by decide +kernel
theorem dX3_copyWords_15 : decode cX3_copyWords 15 = .ok (.ireturn, 1) := by decide +kernel
theorem dX3_copyWords_16 : decode cX3_copyWords 16 = .ok (.iload_n 3, 1) := by decide +kernel
theorem dX3_copyWords_17 : decode cX3_copyWords 17 = .ok (.invokestatic 79, 3) := by decide +kernel
theorem dX3_copyWords_20 : decode cX3_copyWords 20 = .ok (.ifCond .ne 6, 3) := by decide +kernel
theorem dX3_copyWords_23 : decode cX3_copyWords 23 = .ok (.bipush (-2), 2) := by decide +kernel
theorem dX3_copyWords_25 : decode cX3_copyWords 25 = .ok (.ireturn, 1) := by decide +kernel
theorem dX3_copyWords_26 : decode cX3_copyWords 26 = .ok (.iload_n 1, 1) := by decide +kernel
theorem dX3_copyWords_27 : decode cX3_copyWords 27 = .ok (.iload_n 3, 1) := by decide +kernel
theorem dX3_copyWords_28 : decode cX3_copyWords 28 = .ok (.iadd, 1) := by decide +kernel
theorem dX3_copyWords_29 : decode cX3_copyWords 29 = .ok (.iconst 1, 1) := by decide +kernel
theorem dX3_copyWords_30 : decode cX3_copyWords 30 = .ok (.isub, 1) := by decide +kernel
theorem dX3_copyWords_31 : decode cX3_copyWords 31 = .ok (.invokestatic 71, 3) := by decide +kernel
theorem dX3_copyWords_34 : decode cX3_copyWords 34 = .ok (.ifCond .eq 14, 3) := by decide +kernel
theorem dX3_copyWords_37 : decode cX3_copyWords 37 = .ok (.iload_n 2, 1) := by decide +kernel
theorem dX3_copyWords_38 : decode cX3_copyWords 38 = .ok (.iload_n 3, 1) := by decide +kernel
theorem dX3_copyWords_39 : decode cX3_copyWords 39 = .ok (.iadd, 1) := by decide +kernel
theorem dX3_copyWords_40 : decode cX3_copyWords 40 = .ok (.iconst 1, 1) := by decide +kernel
theorem dX3_copyWords_41 : decode cX3_copyWords 41 = .ok (.isub, 1) := by decide +kernel
theorem dX3_copyWords_42 : decode cX3_copyWords 42 = .ok (.invokestatic 71, 3) := by decide +kernel
theorem dX3_copyWords_45 : decode cX3_copyWords 45 = .ok (.ifCond .ne 5, 3) := by decide +kernel
theorem dX3_copyWords_48 : decode cX3_copyWords 48 = .ok (.iconst (-1), 1) := by decide +kernel
theorem dX3_copyWords_49 : decode cX3_copyWords 49 = .ok (.ireturn, 1) := by decide +kernel
theorem dX3_copyWords_50 : decode cX3_copyWords 50 = .ok (.iconst 0, 1) := by decide +kernel
theorem dX3_copyWords_51 : decode cX3_copyWords 51 = .ok (.istore 5, 2) := by decide +kernel
theorem dX3_copyWords_53 : decode cX3_copyWords 53 = .ok (.iload 5, 2) := by decide +kernel
theorem dX3_copyWords_55 : decode cX3_copyWords 55 = .ok (.iload_n 3, 1) := by decide +kernel
theorem dX3_copyWords_56 : decode cX3_copyWords 56 = .ok (.if_icmp .ge 32, 3) := by decide +kernel
theorem dX3_copyWords_59 : decode cX3_copyWords 59 = .ok (.aload_n 0, 1) := by decide +kernel
theorem dX3_copyWords_60 : decode cX3_copyWords 60 = .ok (.iload_n 1, 1) := by decide +kernel
theorem dX3_copyWords_61 : decode cX3_copyWords 61 = .ok (.iload 5, 2) := by decide +kernel
theorem dX3_copyWords_63 : decode cX3_copyWords 63 = .ok (.iadd, 1) := by decide +kernel
theorem dX3_copyWords_64 : decode cX3_copyWords 64 = .ok (.invokevirtual 82, 3) := by decide +kernel
theorem dX3_copyWords_67 : decode cX3_copyWords 67 = .ok (.aload 4, 2) := by decide +kernel
theorem dX3_copyWords_69 : decode cX3_copyWords 69 = .ok (.iload 5, 2) := by decide +kernel
theorem dX3_copyWords_71 : decode cX3_copyWords 71 = .ok (.aload_n 0, 1) := by decide +kernel
theorem dX3_copyWords_72 : decode cX3_copyWords 72 = .ok (.getfield 14, 3) := by decide +kernel
theorem dX3_copyWords_75 : decode cX3_copyWords 75 = .ok (.iload_n 1, 1) := by decide +kernel
theorem dX3_copyWords_76 : decode cX3_copyWords 76 = .ok (.iload 5, 2) := by decide +kernel
theorem dX3_copyWords_78 : decode cX3_copyWords 78 = .ok (.iadd, 1) := by decide +kernel
theorem dX3_copyWords_79 : decode cX3_copyWords 79 = .ok (.invokevirtual 85, 3) := by decide +kernel
theorem dX3_copyWords_82 : decode cX3_copyWords 82 = .ok (.iinc 5 1, 3) := by decide +kernel
theorem dX3_copyWords_85 : decode cX3_copyWords 85 = .ok (.goto (-32), 3) := by decide +kernel
theorem dX3_copyWords_88 : decode cX3_copyWords 88 = .ok (.iconst 0, 1) := by decide +kernel
theorem dX3_copyWords_89 : decode cX3_copyWords 89 = .ok (.istore 5, 2) := by decide +kernel
theorem dX3_copyWords_91 : decode cX3_copyWords 91 = .ok (.iload 5, 2) := by decide +kernel
theorem dX3_copyWords_93 : decode cX3_copyWords 93 = .ok (.iload_n 3, 1) := by decide +kernel
theorem dX3_copyWords_94 : decode cX3_copyWords 94 = .ok (.if_icmp .ge 29, 3) := by decide +kernel
theorem dX3_copyWords_97 : decode cX3_copyWords 97 = .ok (.aload_n 0, 1) := by decide +kernel
theorem dX3_copyWords_98 : decode cX3_copyWords 98 = .ok (.iload_n 2, 1) := by decide +kernel
theorem dX3_copyWords_99 : decode cX3_copyWords 99 = .ok (.iload 5, 2) := by decide +kernel
theorem dX3_copyWords_101 : decode cX3_copyWords 101 = .ok (.iadd, 1) := by decide +kernel
theorem dX3_copyWords_102 : decode cX3_copyWords 102 = .ok (.aload 4, 2) := by decide +kernel
theorem dX3_copyWords_104 : decode cX3_copyWords 104 = .ok (.getfield 89, 3) := by decide +kernel
theorem dX3_copyWords_107 : decode cX3_copyWords 107 = .ok (.iload 5, 2) := by decide +kernel
theorem dX3_copyWords_109 : decode cX3_copyWords 109 = .ok (.iaload, 1) := by decide +kernel
theorem dX3_copyWords_110 : decode cX3_copyWords 110 = .ok (.aload 4, 2) := by decide +kernel
theorem dX3_copyWords_112 : decode cX3_copyWords 112 = .ok (.iload 5, 2) := by decide +kernel
theorem dX3_copyWords_114 : decode cX3_copyWords 114 = .ok (.invokevirtual 92, 3) := by decide +kernel
theorem dX3_copyWords_117 : decode cX3_copyWords 117 = .ok (.iinc 5 1, 3) := by decide +kernel
theorem dX3_copyWords_120 : decode cX3_copyWords 120 = .ok (.goto (-29), 3) := by decide +kernel
theorem dX3_copyWords_123 : decode cX3_copyWords 123 = .ok (.aload_n 0, 1) := by decide +kernel
theorem dX3_copyWords_124 : decode cX3_copyWords 124 = .ok (.getfield 14, 3) := by decide +kernel
theorem dX3_copyWords_127 : decode cX3_copyWords 127 = .ok (.iload_n 2, 1) := by decide +kernel
theorem dX3_copyWords_128 : decode cX3_copyWords 128 = .ok (.iload_n 2, 1) := by decide +kernel
theorem dX3_copyWords_129 : decode cX3_copyWords 129 = .ok (.iload_n 3, 1) := by decide +kernel
theorem dX3_copyWords_130 : decode cX3_copyWords 130 = .ok (.iadd, 1) := by decide +kernel
theorem dX3_copyWords_131 : decode cX3_copyWords 131 = .ok (.invokevirtual 96, 3) := by decide +kernel
theorem dX3_copyWords_134 : decode cX3_copyWords 134 = .ok (.ireturn, 1) := by decide +kernel
set_option maxRecDepth 20000 in
theorem ggX3_fillWords_X5_isWord : GoodIn wsX3_fillWords wsX5_isWord := goodIn_r _ [4] (by decide +kernel) (by decide +kernel)
set_option maxRecDepth 20000 in
theorem gX3_fillWords_X5_isWord_n71 : GoodIn wsX3_fillWords (wsX5_isWord) := ggX3_fillWords_X5_isWord
set_option maxRecDepth 20000 in
theorem ggX3_fillWords_X5_isBlockLength : GoodIn wsX3_fillWords wsX5_isBlockLength := goodIn_r _ [6] (by decide +kernel) (by decide +kernel)
set_option maxRecDepth 20000 in
theorem gX3_fillWords_X5_isBlockLength_n79 : GoodIn wsX3_fillWords (wsX5_isBlockLength) := ggX3_fillWords_X5_isBlockLength
set_option maxRecDepth 20000 in
theorem ggX3_fillWords_X5_isValue : GoodIn wsX3_fillWords wsX5_isValue := goodIn_r _ [8, 9] (by decide +kernel) (by decide +kernel)
set_option maxRecDepth 20000 in
theorem gX3_fillWords_X5_isValue_n100 : GoodIn wsX3_fillWords (wsX5_isValue) := ggX3_fillWords_X5_isValue
set_option maxRecDepth 20000 in
theorem ggX3_fillWords_X0_countPoisoned : GoodIn wsX3_fillWords wsX0_countPoisoned := goodIn_r _ [14, 15, 16, 17, 13, 18, 19, 55, 56, 57] (by decide +kernel) (by decide +kernel)
set_option maxRecDepth 20000 in
theorem gX3_fillWords_X0_countPoisoned : GoodIn wsX3_fillWords (wsV RX3 96 RX0 yX0_countPoisoned wsX0_countPoisoned) := goodIn_app (goodIn_of _ (by decide +kernel)) ggX3_fillWords_X0_countPoisoned
set_option maxRecDepth 20000 in
theorem ggX3_fillWords_X0_setClean : GoodIn wsX3_fillWords wsX0_setClean := goodIn_r _ [23, 24, 25, 26, 27, 13, 28, 19, 29, 55, 56, 57] (by decide +kernel) (by decide +kernel)
set_option maxRecDepth 20000 in
theorem gX3_fillWords_X0_setClean : GoodIn wsX3_fillWords (wsV RX3 103 RX0 yX0_setClean wsX0_setClean) := goodIn_app (goodIn_of _ (by decide +kernel)) ggX3_fillWords_X0_setClean
set_option maxRecDepth 20000 in
theorem ggX3_fillWords_X3_updateSecond : GoodIn wsX3_fillWords wsX3_updateSecond := goodIn_r _ [34, 35, 1, 36, 37, 38, 33, 39, 40, 41, 42, 43, 13, 44, 24, 19, 29, 25, 26, 27, 28, 45, 46, 47, 48, 49, 50, 51, 52, 53, 54, 55, 56, 57] (by decide +kernel) (by decide +kernel)
set_option maxRecDepth 20000 in
theorem gX3_fillWords_X3_updateSecond : GoodIn wsX3_fillWords (wsV RX3 107 RX3 yX3_updateSecond wsX3_updateSecond) := goodIn_app (goodIn_of _ (by decide +kernel)) ggX3_fillWords_X3_updateSecond
theorem dX3_fillWords_0 : decode cX3_fillWords 0 = .ok (.iload_n 1, 1) := by decide +kernel
theorem dX3_fillWords_1 : decode cX3_fillWords 1 = .ok (.invokestatic 71, 3) := by decide +kernel
theorem dX3_fillWords_4 : decode cX3_fillWords 4 = .ok (.ifCond .ne 5, 3) := by decide +kernel
theorem dX3_fillWords_7 : decode cX3_fillWords 7 = .ok (.iconst (-1), 1) := by decide +kernel
theorem dX3_fillWords_8 : decode cX3_fillWords 8 = .ok (.ireturn, 1) := by decide +kernel
theorem dX3_fillWords_9 : decode cX3_fillWords 9 = .ok (.iload_n 2, 1) := by decide +kernel
theorem dX3_fillWords_10 : decode cX3_fillWords 10 = .ok (.invokestatic 79, 3) := by decide +kernel
theorem dX3_fillWords_13 : decode cX3_fillWords 13 = .ok (.ifCond .eq 10, 3) := by decide +kernel
theorem dX3_fillWords_16 : decode cX3_fillWords 16 = .ok (.iload_n 3, 1) := by decide +kernel
theorem dX3_fillWords_17 : decode cX3_fillWords 17 = .ok (.invokestatic 100, 3) := by decide +kernel
theorem dX3_fillWords_20 : decode cX3_fillWords 20 = .ok (.ifCond .ne 6, 3) := by decide +kernel
theorem dX3_fillWords_23 : decode cX3_fillWords 23 = .ok (.bipush (-2), 2) := by decide +kernel
theorem dX3_fillWords_25 : decode cX3_fillWords 25 = .ok (.ireturn, 1) := by decide +kernel
theorem dX3_fillWords_26 : decode cX3_fillWords 26 = .ok (.iload_n 1, 1) := by decide +kernel
theorem dX3_fillWords_27 : decode cX3_fillWords 27 = .ok (.iload_n 2, 1) := by decide +kernel
theorem dX3_fillWords_28 : decode cX3_fillWords 28 = .ok (.iadd, 1) := by decide +kernel
theorem dX3_fillWords_29 : decode cX3_fillWords 29 = .ok (.iconst 1, 1) := by decide +kernel
theorem dX3_fillWords_30 : decode cX3_fillWords 30 = .ok (.isub, 1) := by decide +kernel
theorem dX3_fillWords_31 : decode cX3_fillWords 31 = .ok (.invokestatic 71, 3) := by decide +kernel
theorem dX3_fillWords_34 : decode cX3_fillWords 34 = .ok (.ifCond .ne 5, 3) := by decide +kernel
theorem dX3_fillWords_37 : decode cX3_fillWords 37 = .ok (.iconst (-1), 1) := by decide +kernel
theorem dX3_fillWords_38 : decode cX3_fillWords 38 = .ok (.ireturn, 1) := by decide +kernel
theorem dX3_fillWords_39 : decode cX3_fillWords 39 = .ok (.aload_n 0, 1) := by decide +kernel
theorem dX3_fillWords_40 : decode cX3_fillWords 40 = .ok (.getfield 14, 3) := by decide +kernel
theorem dX3_fillWords_43 : decode cX3_fillWords 43 = .ok (.iload_n 1, 1) := by decide +kernel
theorem dX3_fillWords_44 : decode cX3_fillWords 44 = .ok (.iload_n 1, 1) := by decide +kernel
theorem dX3_fillWords_45 : decode cX3_fillWords 45 = .ok (.iload_n 2, 1) := by decide +kernel
theorem dX3_fillWords_46 : decode cX3_fillWords 46 = .ok (.iadd, 1) := by decide +kernel
theorem dX3_fillWords_47 : decode cX3_fillWords 47 = .ok (.invokevirtual 96, 3) := by decide +kernel
theorem dX3_fillWords_50 : decode cX3_fillWords 50 = .ok (.istore 4, 2) := by decide +kernel
theorem dX3_fillWords_52 : decode cX3_fillWords 52 = .ok (.iconst 0, 1) := by decide +kernel
theorem dX3_fillWords_53 : decode cX3_fillWords 53 = .ok (.istore 5, 2) := by decide +kernel
theorem dX3_fillWords_55 : decode cX3_fillWords 55 = .ok (.iload 5, 2) := by decide +kernel
theorem dX3_fillWords_57 : decode cX3_fillWords 57 = .ok (.iload_n 2, 1) := by decide +kernel
theorem dX3_fillWords_58 : decode cX3_fillWords 58 = .ok (.if_icmp .ge 29, 3) := by decide +kernel
theorem dX3_fillWords_61 : decode cX3_fillWords 61 = .ok (.aload_n 0, 1) := by decide +kernel
theorem dX3_fillWords_62 : decode cX3_fillWords 62 = .ok (.getfield 14, 3) := by decide +kernel
theorem dX3_fillWords_65 : decode cX3_fillWords 65 = .ok (.iload_n 1, 1) := by decide +kernel
theorem dX3_fillWords_66 : decode cX3_fillWords 66 = .ok (.iload 5, 2) := by decide +kernel
theorem dX3_fillWords_68 : decode cX3_fillWords 68 = .ok (.iadd, 1) := by decide +kernel
theorem dX3_fillWords_69 : decode cX3_fillWords 69 = .ok (.iload_n 3, 1) := by decide +kernel
theorem dX3_fillWords_70 : decode cX3_fillWords 70 = .ok (.invokevirtual 103, 3) := by decide +kernel
theorem dX3_fillWords_73 : decode cX3_fillWords 73 = .ok (.aload_n 0, 1) := by decide +kernel
theorem dX3_fillWords_74 : decode cX3_fillWords 74 = .ok (.iload_n 1, 1) := by decide +kernel
theorem dX3_fillWords_75 : decode cX3_fillWords 75 = .ok (.iload 5, 2) := by decide +kernel
theorem dX3_fillWords_77 : decode cX3_fillWords 77 = .ok (.iadd, 1) := by decide +kernel
theorem dX3_fillWords_78 : decode cX3_fillWords 78 = .ok (.invokevirtual 107, 3) := by decide +kernel
theorem dX3_fillWords_81 : decode cX3_fillWords 81 = .ok (.iinc 5 1, 3) := by decide +kernel
theorem dX3_fillWords_84 : decode cX3_fillWords 84 = .ok (.goto (-29), 3) := by decide +kernel
theorem dX3_fillWords_87 : decode cX3_fillWords 87 = .ok (.iload 4, 2) := by decide +kernel
theorem dX3_fillWords_89 : decode cX3_fillWords 89 = .ok (.ireturn, 1) := by decide +kernel
set_option maxRecDepth 20000 in
theorem ggX3_mirrorPage_X5_isPage : GoodIn wsX3_mirrorPage wsX5_isPage := goodIn_r _ [4] (by decide +kernel) (by decide +kernel)
set_option maxRecDepth 20000 in
theorem gX3_mirrorPage_X5_isPage_n110 : GoodIn wsX3_mirrorPage (wsX5_isPage) := ggX3_mirrorPage_X5_isPage
set_option maxRecDepth 20000 in
theorem ggX3_mirrorPage_X3_updateSecond : GoodIn wsX3_mirrorPage wsX3_updateSecond := goodIn_r _ [9, 10, 11, 12, 13, 14, 8, 15, 1, 16, 17, 18, 19, 20, 21, 22, 23, 24, 25, 26, 27, 32, 33, 34, 35, 36, 37, 38, 39, 40, 41, 42, 43, 44] (by decide +kernel) (by decide +kernel)
set_option maxRecDepth 20000 in
theorem gX3_mirrorPage_X3_updateSecond : GoodIn wsX3_mirrorPage (wsV RX3 107 RX3 yX3_updateSecond wsX3_updateSecond) := goodIn_app (goodIn_of _ (by decide +kernel)) ggX3_mirrorPage_X3_updateSecond
set_option maxRecDepth 20000 in
theorem ggX3_mirrorPage_X3_countMirrored : GoodIn wsX3_mirrorPage wsX3_countMirrored := goodIn_r _ [31, 1, 32, 33, 34, 35, 36, 37, 38, 39, 40, 41] (by decide +kernel) (by decide +kernel)
set_option maxRecDepth 20000 in
theorem gX3_mirrorPage_X3_countMirrored : GoodIn wsX3_mirrorPage (wsV RX3 113 RX3 yX3_countMirrored wsX3_countMirrored) := goodIn_app (goodIn_of _ (by decide +kernel)) ggX3_mirrorPage_X3_countMirrored
theorem dX3_mirrorPage_0 : decode cX3_mirrorPage 0 = .ok (.iload_n 1, 1) := by decide +kernel
theorem dX3_mirrorPage_1 : decode cX3_mirrorPage 1 = .ok (.invokestatic 110, 3) := by decide +kernel
theorem dX3_mirrorPage_4 : decode cX3_mirrorPage 4 = .ok (.ifCond .ne 5, 3) := by decide +kernel
theorem dX3_mirrorPage_7 : decode cX3_mirrorPage 7 = .ok (.iconst (-1), 1) := by decide +kernel
theorem dX3_mirrorPage_8 : decode cX3_mirrorPage 8 = .ok (.ireturn, 1) := by decide +kernel
theorem dX3_mirrorPage_9 : decode cX3_mirrorPage 9 = .ok (.aload_n 0, 1) := by decide +kernel
theorem dX3_mirrorPage_10 : decode cX3_mirrorPage 10 = .ok (.getfield 26, 3) := by decide +kernel
theorem dX3_mirrorPage_13 : decode cX3_mirrorPage 13 = .ok (.iload_n 1, 1) := by decide +kernel
theorem dX3_mirrorPage_14 : decode cX3_mirrorPage 14 = .ok (.iload_n 2, 1) := by decide +kernel
theorem dX3_mirrorPage_15 : decode cX3_mirrorPage 15 = .ok (.bastore, 1) := by decide +kernel
theorem dX3_mirrorPage_16 : decode cX3_mirrorPage 16 = .ok (.iconst 0, 1) := by decide +kernel
theorem dX3_mirrorPage_17 : decode cX3_mirrorPage 17 = .ok (.istore_n 3, 1) := by decide +kernel
theorem dX3_mirrorPage_18 : decode cX3_mirrorPage 18 = .ok (.iload_n 3, 1) := by decide +kernel
theorem dX3_mirrorPage_19 : decode cX3_mirrorPage 19 = .ok (.iconst 4, 1) := by decide +kernel
theorem dX3_mirrorPage_20 : decode cX3_mirrorPage 20 = .ok (.if_icmp .ge 18, 3) := by decide +kernel
theorem dX3_mirrorPage_23 : decode cX3_mirrorPage 23 = .ok (.aload_n 0, 1) := by decide +kernel
theorem dX3_mirrorPage_24 : decode cX3_mirrorPage 24 = .ok (.iload_n 1, 1) := by decide +kernel
theorem dX3_mirrorPage_25 : decode cX3_mirrorPage 25 = .ok (.iconst 4, 1) := by decide +kernel
theorem dX3_mirrorPage_26 : decode cX3_mirrorPage 26 = .ok (.imul, 1) := by decide +kernel
theorem dX3_mirrorPage_27 : decode cX3_mirrorPage 27 = .ok (.iload_n 3, 1) := by decide +kernel
theorem dX3_mirrorPage_28 : decode cX3_mirrorPage 28 = .ok (.iadd, 1) := by decide +kernel
theorem dX3_mirrorPage_29 : decode cX3_mirrorPage 29 = .ok (.invokevirtual 107, 3) := by decide +kernel
theorem dX3_mirrorPage_32 : decode cX3_mirrorPage 32 = .ok (.iinc 3 1, 3) := by decide +kernel
theorem dX3_mirrorPage_35 : decode cX3_mirrorPage 35 = .ok (.goto (-17), 3) := by decide +kernel
theorem dX3_mirrorPage_38 : decode cX3_mirrorPage 38 = .ok (.aload_n 0, 1) := by decide +kernel
theorem dX3_mirrorPage_39 : decode cX3_mirrorPage 39 = .ok (.invokevirtual 113, 3) := by decide +kernel
theorem dX3_mirrorPage_42 : decode cX3_mirrorPage 42 = .ok (.ireturn, 1) := by decide +kernel
set_option maxRecDepth 20000 in
theorem ggX3_scrubPage_X5_isPage : GoodIn wsX3_scrubPage wsX5_isPage := goodIn_r _ [4] (by decide +kernel) (by decide +kernel)
set_option maxRecDepth 20000 in
theorem gX3_scrubPage_X5_isPage_n110 : GoodIn wsX3_scrubPage (wsX5_isPage) := ggX3_scrubPage_X5_isPage
set_option maxRecDepth 20000 in
theorem ggX3_scrubPage_X3_fetch : GoodIn wsX3_scrubPage wsX3_fetch := goodIn_r _ [9, 10, 11, 1, 12, 13, 14, 8, 15, 16, 17, 18, 19, 20, 21, 22, 23, 24, 25, 26, 27, 28, 29, 30, 31, 32, 33, 34, 35, 36, 37, 38, 39, 40, 41, 42, 43, 44, 45, 46, 47, 48, 49] (by decide +kernel) (by decide +kernel)
set_option maxRecDepth 20000 in
theorem gX3_scrubPage_X3_fetch : GoodIn wsX3_scrubPage (wsV RX3 82 RX3 yX3_fetch wsX3_fetch) := goodIn_app (goodIn_of _ (by decide +kernel)) ggX3_scrubPage_X3_fetch
theorem dX3_scrubPage_0 : decode cX3_scrubPage 0 = .ok (.iload_n 1, 1) := by decide +kernel
theorem dX3_scrubPage_1 : decode cX3_scrubPage 1 = .ok (.invokestatic 110, 3) := by decide +kernel
theorem dX3_scrubPage_4 : decode cX3_scrubPage 4 = .ok (.ifCond .ne 5, 3) := by decide +kernel
theorem dX3_scrubPage_7 : decode cX3_scrubPage 7 = .ok (.iconst (-1), 1) := by decide +kernel
theorem dX3_scrubPage_8 : decode cX3_scrubPage 8 = .ok (.ireturn, 1) := by decide +kernel
theorem dX3_scrubPage_9 : decode cX3_scrubPage 9 = .ok (.aload_n 0, 1) := by decide +kernel
theorem dX3_scrubPage_10 : decode cX3_scrubPage 10 = .ok (.getfield 68, 3) := by decide +kernel
theorem dX3_scrubPage_13 : decode cX3_scrubPage 13 = .ok (.istore_n 2, 1) := by decide +kernel
theorem dX3_scrubPage_14 : decode cX3_scrubPage 14 = .ok (.iconst 0, 1) := by decide +kernel
theorem dX3_scrubPage_15 : decode cX3_scrubPage 15 = .ok (.istore_n 3, 1) := by decide +kernel
theorem dX3_scrubPage_16 : decode cX3_scrubPage 16 = .ok (.iload_n 3, 1) := by decide +kernel
theorem dX3_scrubPage_17 : decode cX3_scrubPage 17 = .ok (.iconst 4, 1) := by decide +kernel
theorem dX3_scrubPage_18 : decode cX3_scrubPage 18 = .ok (.if_icmp .ge 18, 3) := by decide +kernel
theorem dX3_scrubPage_21 : decode cX3_scrubPage 21 = .ok (.aload_n 0, 1) := by decide +kernel
theorem dX3_scrubPage_22 : decode cX3_scrubPage 22 = .ok (.iload_n 1, 1) := by decide +kernel
theorem dX3_scrubPage_23 : decode cX3_scrubPage 23 = .ok (.iconst 4, 1) := by decide +kernel
theorem dX3_scrubPage_24 : decode cX3_scrubPage 24 = .ok (.imul, 1) := by decide +kernel
theorem dX3_scrubPage_25 : decode cX3_scrubPage 25 = .ok (.iload_n 3, 1) := by decide +kernel
theorem dX3_scrubPage_26 : decode cX3_scrubPage 26 = .ok (.iadd, 1) := by decide +kernel
theorem dX3_scrubPage_27 : decode cX3_scrubPage 27 = .ok (.invokevirtual 82, 3) := by decide +kernel
theorem dX3_scrubPage_30 : decode cX3_scrubPage 30 = .ok (.iinc 3 1, 3) := by decide +kernel
theorem dX3_scrubPage_33 : decode cX3_scrubPage 33 = .ok (.goto (-17), 3) := by decide +kernel
theorem dX3_scrubPage_36 : decode cX3_scrubPage 36 = .ok (.aload_n 0, 1) := by decide +kernel
theorem dX3_scrubPage_37 : decode cX3_scrubPage 37 = .ok (.getfield 68, 3) := by decide +kernel
theorem dX3_scrubPage_40 : decode cX3_scrubPage 40 = .ok (.iload_n 2, 1) := by decide +kernel
theorem dX3_scrubPage_41 : decode cX3_scrubPage 41 = .ok (.isub, 1) := by decide +kernel
theorem dX3_scrubPage_42 : decode cX3_scrubPage 42 = .ok (.ireturn, 1) := by decide +kernel
set_option maxRecDepth 20000 in
theorem ggX3_changeMode_X5_isTask : GoodIn wsX3_changeMode wsX5_isTask := goodIn_r _ [4] (by decide +kernel) (by decide +kernel)
set_option maxRecDepth 20000 in
theorem gX3_changeMode_X5_isTask_n117 : GoodIn wsX3_changeMode (wsX5_isTask) := ggX3_changeMode_X5_isTask
theorem dX3_changeMode_0 : decode cX3_changeMode 0 = .ok (.iload_n 1, 1) := by decide +kernel
theorem dX3_changeMode_1 : decode cX3_changeMode 1 = .ok (.invokestatic 117, 3) := by decide +kernel
theorem dX3_changeMode_4 : decode cX3_changeMode 4 = .ok (.ifCond .ne 5, 3) := by decide +kernel
theorem dX3_changeMode_7 : decode cX3_changeMode 7 = .ok (.iconst (-1), 1) := by decide +kernel
theorem dX3_changeMode_8 : decode cX3_changeMode 8 = .ok (.ireturn, 1) := by decide +kernel
theorem dX3_changeMode_9 : decode cX3_changeMode 9 = .ok (.iload_n 2, 1) := by decide +kernel
theorem dX3_changeMode_10 : decode cX3_changeMode 10 = .ok (.ifCond .lt 8, 3) := by decide +kernel
theorem dX3_changeMode_13 : decode cX3_changeMode 13 = .ok (.iload_n 2, 1) := by decide +kernel
theorem dX3_changeMode_14 : decode cX3_changeMode 14 = .ok (.iconst 3, 1) := by decide +kernel
theorem dX3_changeMode_15 : decode cX3_changeMode 15 = .ok (.if_icmp .lt 6, 3) := by decide +kernel
theorem dX3_changeMode_18 : decode cX3_changeMode 18 = .ok (.bipush (-2), 2) := by decide +kernel
theorem dX3_changeMode_20 : decode cX3_changeMode 20 = .ok (.ireturn, 1) := by decide +kernel
theorem dX3_changeMode_21 : decode cX3_changeMode 21 = .ok (.aload_n 0, 1) := by decide +kernel
theorem dX3_changeMode_22 : decode cX3_changeMode 22 = .ok (.getfield 30, 3) := by decide +kernel
theorem dX3_changeMode_25 : decode cX3_changeMode 25 = .ok (.iload_n 1, 1) := by decide +kernel
theorem dX3_changeMode_26 : decode cX3_changeMode 26 = .ok (.iaload, 1) := by decide +kernel
theorem dX3_changeMode_27 : decode cX3_changeMode 27 = .ok (.istore_n 3, 1) := by decide +kernel
theorem dX3_changeMode_28 : decode cX3_changeMode 28 = .ok (.aload_n 0, 1) := by decide +kernel
theorem dX3_changeMode_29 : decode cX3_changeMode 29 = .ok (.getfield 30, 3) := by decide +kernel
theorem dX3_changeMode_32 : decode cX3_changeMode 32 = .ok (.iload_n 1, 1) := by decide +kernel
theorem dX3_changeMode_33 : decode cX3_changeMode 33 = .ok (.iload_n 2, 1) := by decide +kernel
theorem dX3_changeMode_34 : decode cX3_changeMode 34 = .ok (.iastore, 1) := by decide +kernel
theorem dX3_changeMode_35 : decode cX3_changeMode 35 = .ok (.iload_n 3, 1) := by decide +kernel
theorem dX3_changeMode_36 : decode cX3_changeMode 36 = .ok (.ireturn, 1) := by decide +kernel
set_option maxRecDepth 20000 in
theorem ggX3_restartTask_X5_isTask : GoodIn wsX3_restartTask wsX5_isTask := goodIn_r _ [5] (by decide +kernel) (by decide +kernel)
set_option maxRecDepth 20000 in
theorem gX3_restartTask_X5_isTask_n117 : GoodIn wsX3_restartTask (wsX5_isTask) := ggX3_restartTask_X5_isTask
set_option maxRecDepth 20000 in
theorem ggX3_restartTask_X5_cellOf : GoodIn wsX3_restartTask wsX5_cellOf := goodIn_r _ [7] (by decide +kernel) (by decide +kernel)
set_option maxRecDepth 20000 in
theorem gX3_restartTask_X5_cellOf_n120 : GoodIn wsX3_restartTask (wsX5_cellOf) := ggX3_restartTask_X5_cellOf
set_option maxRecDepth 20000 in
theorem ggX3_restartTask_X0_countPoisoned : GoodIn wsX3_restartTask wsX0_countPoisoned := goodIn_r _ [12, 13, 14, 15, 11, 16, 17, 38, 39, 40] (by decide +kernel) (by decide +kernel)
set_option maxRecDepth 20000 in
theorem gX3_restartTask_X0_countPoisoned : GoodIn wsX3_restartTask (wsV RX3 96 RX0 yX0_countPoisoned wsX0_countPoisoned) := goodIn_app (goodIn_of _ (by decide +kernel)) ggX3_restartTask_X0_countPoisoned
set_option maxRecDepth 20000 in
theorem ggX3_restartTask_X0_setClean : GoodIn wsX3_restartTask wsX0_setClean := goodIn_r _ [21, 22, 23, 24, 25, 11, 26, 17, 27, 38, 39, 40] (by decide +kernel) (by decide +kernel)
set_option maxRecDepth 20000 in
theorem gX3_restartTask_X0_setClean : GoodIn wsX3_restartTask (wsV RX3 103 RX0 yX0_setClean wsX0_setClean) := goodIn_app (goodIn_of _ (by decide +kernel)) ggX3_restartTask_X0_setClean
theorem dX3_restartTask_0 : decode cX3_restartTask 0 = .ok (.iload_n 1, 1) := by decide +kernel
theorem dX3_restartTask_1 : decode cX3_restartTask 1 = .ok (.invokestatic 117, 3) := by decide +kernel
theorem dX3_restartTask_4 : decode cX3_restartTask 4 = .ok (.ifCond .ne 5, 3) := by decide +kernel
theorem dX3_restartTask_7 : decode cX3_restartTask 7 = .ok (.iconst (-1), 1) := by decide +kernel
theorem dX3_restartTask_8 : decode cX3_restartTask 8 = .ok (.ireturn, 1) := by decide +kernel
theorem dX3_restartTask_9 : decode cX3_restartTask 9 = .ok (.aload_n 0, 1) := by decide +kernel
theorem dX3_restartTask_10 : decode cX3_restartTask 10 = .ok (.getfield 23, 3) := by decide +kernel
theorem dX3_restartTask_13 : decode cX3_restartTask 13 = .ok (.iload_n 1, 1) := by decide +kernel
theorem dX3_restartTask_14 : decode cX3_restartTask 14 = .ok (.iconst 0, 1) := by decide +kernel
theorem dX3_restartTask_15 : decode cX3_restartTask 15 = .ok (.invokestatic 120, 3) := by decide +kernel
theorem dX3_restartTask_18 : decode cX3_restartTask 18 = .ok (.iload_n 1, 1) := by decide +kernel
theorem dX3_restartTask_19 : decode cX3_restartTask 19 = .ok (.iconst 4, 1) := by decide +kernel
theorem dX3_restartTask_20 : decode cX3_restartTask 20 = .ok (.invokestatic 120, 3) := by decide +kernel
theorem dX3_restartTask_23 : decode cX3_restartTask 23 = .ok (.invokevirtual 96, 3) := by decide +kernel
theorem dX3_restartTask_26 : decode cX3_restartTask 26 = .ok (.istore_n 2, 1) := by decide +kernel
theorem dX3_restartTask_27 : decode cX3_restartTask 27 = .ok (.iconst 0, 1) := by decide +kernel
theorem dX3_restartTask_28 : decode cX3_restartTask 28 = .ok (.istore_n 3, 1) := by decide +kernel
theorem dX3_restartTask_29 : decode cX3_restartTask 29 = .ok (.iload_n 3, 1) := by decide +kernel
theorem dX3_restartTask_30 : decode cX3_restartTask 30 = .ok (.iconst 4, 1) := by decide +kernel
theorem dX3_restartTask_31 : decode cX3_restartTask 31 = .ok (.if_icmp .ge 22, 3) := by decide +kernel
theorem dX3_restartTask_34 : decode cX3_restartTask 34 = .ok (.aload_n 0, 1) := by decide +kernel
theorem dX3_restartTask_35 : decode cX3_restartTask 35 = .ok (.getfield 23, 3) := by decide +kernel
theorem dX3_restartTask_38 : decode cX3_restartTask 38 = .ok (.iload_n 1, 1) := by decide +kernel
theorem dX3_restartTask_39 : decode cX3_restartTask 39 = .ok (.iload_n 3, 1) := by decide +kernel
theorem dX3_restartTask_40 : decode cX3_restartTask 40 = .ok (.invokestatic 120, 3) := by decide +kernel
theorem dX3_restartTask_43 : decode cX3_restartTask 43 = .ok (.iconst 0, 1) := by decide +kernel
theorem dX3_restartTask_44 : decode cX3_restartTask 44 = .ok (.invokevirtual 103, 3) := by decide +kernel
theorem dX3_restartTask_47 : decode cX3_restartTask 47 = .ok (.iinc 3 1, 3) := by decide +kernel
theorem dX3_restartTask_50 : decode cX3_restartTask 50 = .ok (.goto (-21), 3) := by decide +kernel
theorem dX3_restartTask_53 : decode cX3_restartTask 53 = .ok (.aload_n 0, 1) := by decide +kernel
theorem dX3_restartTask_54 : decode cX3_restartTask 54 = .ok (.getfield 34, 3) := by decide +kernel
theorem dX3_restartTask_57 : decode cX3_restartTask 57 = .ok (.iload_n 1, 1) := by decide +kernel
theorem dX3_restartTask_58 : decode cX3_restartTask 58 = .ok (.iconst 0, 1) := by decide +kernel
theorem dX3_restartTask_59 : decode cX3_restartTask 59 = .ok (.bastore, 1) := by decide +kernel
theorem dX3_restartTask_60 : decode cX3_restartTask 60 = .ok (.iload_n 2, 1) := by decide +kernel
theorem dX3_restartTask_61 : decode cX3_restartTask 61 = .ok (.ireturn, 1) := by decide +kernel
set_option maxRecDepth 20000 in
theorem ggX3_giveRegister_X5_isTask : GoodIn wsX3_giveRegister wsX5_isTask := goodIn_r _ [5] (by decide +kernel) (by decide +kernel)
set_option maxRecDepth 20000 in
theorem gX3_giveRegister_X5_isTask_n117 : GoodIn wsX3_giveRegister (wsX5_isTask) := ggX3_giveRegister_X5_isTask
set_option maxRecDepth 20000 in
theorem ggX3_giveRegister_X5_isRegister : GoodIn wsX3_giveRegister wsX5_isRegister := goodIn_r _ [7] (by decide +kernel) (by decide +kernel)
set_option maxRecDepth 20000 in
theorem gX3_giveRegister_X5_isRegister_n123 : GoodIn wsX3_giveRegister (wsX5_isRegister) := ggX3_giveRegister_X5_isRegister
set_option maxRecDepth 20000 in
theorem ggX3_giveRegister_X5_isValue : GoodIn wsX3_giveRegister wsX5_isValue := goodIn_r _ [9, 10] (by decide +kernel) (by decide +kernel)
set_option maxRecDepth 20000 in
theorem gX3_giveRegister_X5_isValue_n100 : GoodIn wsX3_giveRegister (wsX5_isValue) := ggX3_giveRegister_X5_isValue
set_option maxRecDepth 20000 in
theorem ggX3_giveRegister_X5_cellOf : GoodIn wsX3_giveRegister wsX5_cellOf := goodIn_r _ [12] (by decide +kernel) (by decide +kernel)
set_option maxRecDepth 20000 in
theorem gX3_giveRegister_X5_cellOf_n120 : GoodIn wsX3_giveRegister (wsX5_cellOf) := ggX3_giveRegister_X5_cellOf
set_option maxRecDepth 20000 in
theorem ggX3_giveRegister_X0_setClean : GoodIn wsX3_giveRegister wsX0_setClean := goodIn_r _ [17, 18, 19, 20, 21, 16, 22, 23, 24, 35, 36, 37] (by decide +kernel) (by decide +kernel)
set_option maxRecDepth 20000 in
theorem gX3_giveRegister_X0_setClean : GoodIn wsX3_giveRegister (wsV RX3 103 RX0 yX0_setClean wsX0_setClean) := goodIn_app (goodIn_of _ (by decide +kernel)) ggX3_giveRegister_X0_setClean
theorem dX3_giveRegister_0 : decode cX3_giveRegister 0 = .ok (.iload_n 1, 1) := by decide +kernel
theorem dX3_giveRegister_1 : decode cX3_giveRegister 1 = .ok (.invokestatic 117, 3) := by decide +kernel
theorem dX3_giveRegister_4 : decode cX3_giveRegister 4 = .ok (.ifCond .eq 10, 3) := by decide +kernel
theorem dX3_giveRegister_7 : decode cX3_giveRegister 7 = .ok (.iload_n 2, 1) := by decide +kernel
theorem dX3_giveRegister_8 : decode cX3_giveRegister 8 = .ok (.invokestatic 123, 3) := by decide +kernel
theorem dX3_giveRegister_11 : decode cX3_giveRegister 11 = .ok (.ifCond .ne 5, 3) := by decide +kernel
theorem dX3_giveRegister_14 : decode cX3_giveRegister 14 = .ok (.iconst (-1), 1) := by decide +kernel
theorem dX3_giveRegister_15 : decode cX3_giveRegister 15 = .ok (.ireturn, 1) := by decide +kernel
theorem dX3_giveRegister_16 : decode cX3_giveRegister 16 = .ok (.iload_n 3, 1) := by decide +kernel
theorem dX3_giveRegister_17 : decode cX3_giveRegister 17 = .ok (.invokestatic 100, 3) := by decide +kernel
theorem dX3_giveRegister_20 : decode cX3_giveRegister 20 = .ok (.ifCond .ne 6, 3) := by decide +kernel
theorem dX3_giveRegister_23 : decode cX3_giveRegister 23 = .ok (.bipush (-2), 2) := by decide +kernel
theorem dX3_giveRegister_25 : decode cX3_giveRegister 25 = .ok (.ireturn, 1) := by decide +kernel
theorem dX3_giveRegister_26 : decode cX3_giveRegister 26 = .ok (.aload_n 0, 1) := by decide +kernel
theorem dX3_giveRegister_27 : decode cX3_giveRegister 27 = .ok (.getfield 34, 3) := by decide +kernel
theorem dX3_giveRegister_30 : decode cX3_giveRegister 30 = .ok (.iload_n 1, 1) := by decide +kernel
theorem dX3_giveRegister_31 : decode cX3_giveRegister 31 = .ok (.baload, 1) := by decide +kernel
theorem dX3_giveRegister_32 : decode cX3_giveRegister 32 = .ok (.ifCond .eq 6, 3) := by decide +kernel
theorem dX3_giveRegister_35 : decode cX3_giveRegister 35 = .ok (.bipush (-5), 2) := by decide +kernel
theorem dX3_giveRegister_37 : decode cX3_giveRegister 37 = .ok (.ireturn, 1) := by decide +kernel
theorem dX3_giveRegister_38 : decode cX3_giveRegister 38 = .ok (.iload_n 1, 1) := by decide +kernel
theorem dX3_giveRegister_39 : decode cX3_giveRegister 39 = .ok (.iload_n 2, 1) := by decide +kernel
theorem dX3_giveRegister_40 : decode cX3_giveRegister 40 = .ok (.invokestatic 120, 3) := by decide +kernel
theorem dX3_giveRegister_43 : decode cX3_giveRegister 43 = .ok (.istore 4, 2) := by decide +kernel
theorem dX3_giveRegister_45 : decode cX3_giveRegister 45 = .ok (.aload_n 0, 1) := by decide +kernel
theorem dX3_giveRegister_46 : decode cX3_giveRegister 46 = .ok (.getfield 23, 3) := by decide +kernel
theorem dX3_giveRegister_49 : decode cX3_giveRegister 49 = .ok (.getfield 89, 3) := by decide +kernel
theorem dX3_giveRegister_52 : decode cX3_giveRegister 52 = .ok (.iload 4, 2) := by decide +kernel
theorem dX3_giveRegister_54 : decode cX3_giveRegister 54 = .ok (.iaload, 1) := by decide +kernel
theorem dX3_giveRegister_55 : decode cX3_giveRegister 55 = .ok (.istore 5, 2) := by decide +kernel
theorem dX3_giveRegister_57 : decode cX3_giveRegister 57 = .ok (.aload_n 0, 1) := by decide +kernel
theorem dX3_giveRegister_58 : decode cX3_giveRegister 58 = .ok (.getfield 23, 3) := by decide +kernel
theorem dX3_giveRegister_61 : decode cX3_giveRegister 61 = .ok (.iload 4, 2) := by decide +kernel
theorem dX3_giveRegister_63 : decode cX3_giveRegister 63 = .ok (.iload_n 3, 1) := by decide +kernel
theorem dX3_giveRegister_64 : decode cX3_giveRegister 64 = .ok (.invokevirtual 103, 3) := by decide +kernel
theorem dX3_giveRegister_67 : decode cX3_giveRegister 67 = .ok (.iload 5, 2) := by decide +kernel
theorem dX3_giveRegister_69 : decode cX3_giveRegister 69 = .ok (.ireturn, 1) := by decide +kernel
set_option maxRecDepth 20000 in
theorem ggX3_loadWord_X5_isTask : GoodIn wsX3_loadWord wsX5_isTask := goodIn_r _ [4] (by decide +kernel) (by decide +kernel)
set_option maxRecDepth 20000 in
theorem gX3_loadWord_X5_isTask_n117 : GoodIn wsX3_loadWord (wsX5_isTask) := ggX3_loadWord_X5_isTask
set_option maxRecDepth 20000 in
theorem ggX3_loadWord_X5_isRegister : GoodIn wsX3_loadWord wsX5_isRegister := goodIn_r _ [6] (by decide +kernel) (by decide +kernel)
set_option maxRecDepth 20000 in
theorem gX3_loadWord_X5_isRegister_n123 : GoodIn wsX3_loadWord (wsX5_isRegister) := ggX3_loadWord_X5_isRegister
set_option maxRecDepth 20000 in
theorem ggX3_loadWord_X5_isWord : GoodIn wsX3_loadWord wsX5_isWord := goodIn_r _ [8] (by decide +kernel) (by decide +kernel)
set_option maxRecDepth 20000 in
theorem gX3_loadWord_X5_isWord_n71 : GoodIn wsX3_loadWord (wsX5_isWord) := ggX3_loadWord_X5_isWord
set_option maxRecDepth 20000 in
theorem ggX3_loadWord_X5_cellOf : GoodIn wsX3_loadWord wsX5_cellOf := goodIn_r _ [10] (by decide +kernel) (by decide +kernel)
set_option maxRecDepth 20000 in
theorem gX3_loadWord_X5_cellOf_n120 : GoodIn wsX3_loadWord (wsX5_cellOf) := ggX3_loadWord_X5_cellOf
set_option maxRecDepth 20000 in
theorem ggX3_loadWord_X3_takeWord : GoodIn wsX3_loadWord wsX3_takeWord := goodIn_r _ [15, 16, 17, 18, 19, 20, 14, 21, 22, 23, 24, 25, 26, 27, 28, 29, 30, 31, 32, 33, 34, 35, 36, 37, 38, 39, 40, 41, 42, 43, 44, 45, 46, 47, 48, 49, 50, 51, 52, 53, 54, 55, 56, 57, 58, 59, 60, 61, 62, 63, 64, 65, 66, 67, 68, 69, 70] (by decide +kernel) (by decide +kernel)
set_option maxRecDepth 20000 in
theorem gX3_loadWord_X3_takeWord : GoodIn wsX3_loadWord (wsV RX3 126 RX3 yX3_takeWord wsX3_takeWord) := goodIn_app (goodIn_of _ (by decide +kernel)) ggX3_loadWord_X3_takeWord
theorem dX3_loadWord_0 : decode cX3_loadWord 0 = .ok (.iload_n 1, 1) := by decide +kernel
theorem dX3_loadWord_1 : decode cX3_loadWord 1 = .ok (.invokestatic 117, 3) := by decide +kernel
theorem dX3_loadWord_4 : decode cX3_loadWord 4 = .ok (.ifCond .eq 17, 3) := by decide +kernel
theorem dX3_loadWord_7 : decode cX3_loadWord 7 = .ok (.iload_n 2, 1) := by decide +kernel
theorem dX3_loadWord_8 : decode cX3_loadWord 8 = .ok (.invokestatic 123, 3) := by decide +kernel
theorem dX3_loadWord_11 : decode cX3_loadWord 11 = .ok (.ifCond .eq 10, 3) := by decide +kernel
theorem dX3_loadWord_14 : decode cX3_loadWord 14 = .ok (.iload_n 3, 1) := by decide +kernel
theorem dX3_loadWord_15 : decode cX3_loadWord 15 = .ok (.invokestatic 71, 3) := by decide +kernel
theorem dX3_loadWord_18 : decode cX3_loadWord 18 = .ok (.ifCond .ne 5, 3) := by decide +kernel
theorem dX3_loadWord_21 : decode cX3_loadWord 21 = .ok (.iconst (-1), 1) := by decide +kernel
theorem dX3_loadWord_22 : decode cX3_loadWord 22 = .ok (.ireturn, 1) := by decide +kernel
theorem dX3_loadWord_23 : decode cX3_loadWord 23 = .ok (.aload_n 0, 1) := by decide +kernel
theorem dX3_loadWord_24 : decode cX3_loadWord 24 = .ok (.getfield 34, 3) := by decide +kernel
theorem dX3_loadWord_27 : decode cX3_loadWord 27 = .ok (.iload_n 1, 1) := by decide +kernel
theorem dX3_loadWord_28 : decode cX3_loadWord 28 = .ok (.baload, 1) := by decide +kernel
theorem dX3_loadWord_29 : decode cX3_loadWord 29 = .ok (.ifCond .eq 6, 3) := by decide +kernel
theorem dX3_loadWord_32 : decode cX3_loadWord 32 = .ok (.bipush (-5), 2) := by decide +kernel
theorem dX3_loadWord_34 : decode cX3_loadWord 34 = .ok (.ireturn, 1) := by decide +kernel
theorem dX3_loadWord_35 : decode cX3_loadWord 35 = .ok (.aload_n 0, 1) := by decide +kernel
theorem dX3_loadWord_36 : decode cX3_loadWord 36 = .ok (.iload_n 1, 1) := by decide +kernel
theorem dX3_loadWord_37 : decode cX3_loadWord 37 = .ok (.iload_n 2, 1) := by decide +kernel
theorem dX3_loadWord_38 : decode cX3_loadWord 38 = .ok (.invokestatic 120, 3) := by decide +kernel
theorem dX3_loadWord_41 : decode cX3_loadWord 41 = .ok (.iload_n 3, 1) := by decide +kernel
theorem dX3_loadWord_42 : decode cX3_loadWord 42 = .ok (.invokevirtual 126, 3) := by decide +kernel
theorem dX3_loadWord_45 : decode cX3_loadWord 45 = .ok (.ireturn, 1) := by decide +kernel
set_option maxRecDepth 20000 in
theorem ggX3_loadPart_X5_isTask : GoodIn wsX3_loadPart wsX5_isTask := goodIn_r _ [5] (by decide +kernel) (by decide +kernel)
set_option maxRecDepth 20000 in
theorem gX3_loadPart_X5_isTask_n117 : GoodIn wsX3_loadPart (wsX5_isTask) := ggX3_loadPart_X5_isTask
set_option maxRecDepth 20000 in
theorem ggX3_loadPart_X5_isRegister : GoodIn wsX3_loadPart wsX5_isRegister := goodIn_r _ [7] (by decide +kernel) (by decide +kernel)
set_option maxRecDepth 20000 in
theorem gX3_loadPart_X5_isRegister_n123 : GoodIn wsX3_loadPart (wsX5_isRegister) := ggX3_loadPart_X5_isRegister
set_option maxRecDepth 20000 in
theorem ggX3_loadPart_X5_isWord : GoodIn wsX3_loadPart wsX5_isWord := goodIn_r _ [9] (by decide +kernel) (by decide +kernel)
set_option maxRecDepth 20000 in
theorem gX3_loadPart_X5_isWord_n71 : GoodIn wsX3_loadPart (wsX5_isWord) := ggX3_loadPart_X5_isWord
set_option maxRecDepth 20000 in
theorem ggX3_loadPart_X5_isPart : GoodIn wsX3_loadPart wsX5_isPart := goodIn_r _ [11] (by decide +kernel) (by decide +kernel)
set_option maxRecDepth 20000 in
theorem gX3_loadPart_X5_isPart_n129 : GoodIn wsX3_loadPart (wsX5_isPart) := ggX3_loadPart_X5_isPart
set_option maxRecDepth 20000 in
theorem ggX3_loadPart_X5_cellOf : GoodIn wsX3_loadPart wsX5_cellOf := goodIn_r _ [13] (by decide +kernel) (by decide +kernel)
set_option maxRecDepth 20000 in
theorem gX3_loadPart_X5_cellOf_n120 : GoodIn wsX3_loadPart (wsX5_cellOf) := ggX3_loadPart_X5_cellOf
set_option maxRecDepth 20000 in
theorem ggX3_loadPart_X3_takeWord : GoodIn wsX3_loadPart wsX3_takeWord := goodIn_r _ [18, 2, 19, 20, 21, 22, 17, 23, 24, 25, 26, 27, 28, 29, 30, 31, 32, 33, 34, 35, 36, 37, 38, 39, 40, 41, 42, 43, 44, 45, 46, 47, 48, 49, 50, 51, 52, 53, 54, 55, 56, 57, 58, 59, 62, 63, 64, 65, 66, 67, 68, 69, 70, 71, 72, 73, 74] (by decide +kernel) (by decide +kernel)
set_option maxRecDepth 20000 in
theorem gX3_loadPart_X3_takeWord : GoodIn wsX3_loadPart (wsV RX3 126 RX3 yX3_takeWord wsX3_takeWord) := goodIn_app (goodIn_of _ (by decide +kernel)) ggX3_loadPart_X3_takeWord
set_option maxRecDepth 20000 in
theorem ggX3_loadPart_X5_byteOf : GoodIn wsX3_loadPart wsX5_byteOf := goodIn_r _ [61] (by decide +kernel) (by decide +kernel)
set_option maxRecDepth 20000 in
theorem gX3_loadPart_X5_byteOf_n132 : GoodIn wsX3_loadPart (wsX5_byteOf) := ggX3_loadPart_X5_byteOf
theorem dX3_loadPart_0 : decode cX3_loadPart 0 = .ok (.iload_n 1, 1) := by decide +kernel
theorem dX3_loadPart_1 : decode cX3_loadPart 1 = .ok (.invokestatic 117, 3) := by decide +kernel
theorem dX3_loadPart_4 : decode cX3_loadPart 4 = .ok (.ifCond .eq 17, 3) := by decide +kernel
theorem dX3_loadPart_7 : decode cX3_loadPart 7 = .ok (.iload_n 2, 1) := by decide +kernel
theorem dX3_loadPart_8 : decode cX3_loadPart 8 = .ok (.invokestatic 123, 3) := by decide +kernel
theorem dX3_loadPart_11 : decode cX3_loadPart 11 = .ok (.ifCond .eq 10, 3) := by decide +kernel
theorem dX3_loadPart_14 : decode cX3_loadPart 14 = .ok (.iload_n 3, 1) := by decide +kernel
theorem dX3_loadPart_15 : decode cX3_loadPart 15 = .ok (.invokestatic 71, 3) := by decide +kernel
theorem dX3_loadPart_18 : decode cX3_loadPart 18 = .ok (.ifCond .ne 5, 3) := by decide +kernel
theorem dX3_loadPart_21 : decode cX3_loadPart 21 = .ok (.iconst (-1), 1) := by decide +kernel
theorem dX3_loadPart_22 : decode cX3_loadPart 22 = .ok (.ireturn, 1) := by decide +kernel
theorem dX3_loadPart_23 : decode cX3_loadPart 23 = .ok (.iload 4, 2) := by decide +kernel
theorem dX3_loadPart_25 : decode cX3_loadPart 25 = .ok (.invokestatic 129, 3) := by decide +kernel
theorem dX3_loadPart_28 : decode cX3_loadPart 28 = .ok (.ifCond .ne 6, 3) := by decide +kernel
theorem dX3_loadPart_31 : decode cX3_loadPart 31 = .ok (.bipush (-2), 2) := by decide +kernel
theorem dX3_loadPart_33 : decode cX3_loadPart 33 = .ok (.ireturn, 1) := by decide +kernel
theorem dX3_loadPart_34 : decode cX3_loadPart 34 = .ok (.aload_n 0, 1) := by decide +kernel
theorem dX3_loadPart_35 : decode cX3_loadPart 35 = .ok (.getfield 34, 3) := by decide +kernel
theorem dX3_loadPart_38 : decode cX3_loadPart 38 = .ok (.iload_n 1, 1) := by decide +kernel
theorem dX3_loadPart_39 : decode cX3_loadPart 39 = .ok (.baload, 1) := by decide +kernel
theorem dX3_loadPart_40 : decode cX3_loadPart 40 = .ok (.ifCond .eq 6, 3) := by decide +kernel
theorem dX3_loadPart_43 : decode cX3_loadPart 43 = .ok (.bipush (-5), 2) := by decide +kernel
theorem dX3_loadPart_45 : decode cX3_loadPart 45 = .ok (.ireturn, 1) := by decide +kernel
theorem dX3_loadPart_46 : decode cX3_loadPart 46 = .ok (.iload_n 1, 1) := by decide +kernel
theorem dX3_loadPart_47 : decode cX3_loadPart 47 = .ok (.iload_n 2, 1) := by decide +kernel
theorem dX3_loadPart_48 : decode cX3_loadPart 48 = .ok (.invokestatic 120, 3) := by decide +kernel
theorem dX3_loadPart_51 : decode cX3_loadPart 51 = .ok (.istore 5, 2) := by decide +kernel
theorem dX3_loadPart_53 : decode cX3_loadPart 53 = .ok (.aload_n 0, 1) := by decide +kernel
theorem dX3_loadPart_54 : decode cX3_loadPart 54 = .ok (.iload 5, 2) := by decide +kernel
theorem dX3_loadPart_56 : decode cX3_loadPart 56 = .ok (.iload_n 3, 1) := by decide +kernel
theorem dX3_loadPart_57 : decode cX3_loadPart 57 = .ok (.invokevirtual 126, 3) := by decide +kernel
theorem dX3_loadPart_60 : decode cX3_loadPart 60 = .ok (.iload 4, 2) := by decide +kernel
theorem dX3_loadPart_62 : decode cX3_loadPart 62 = .ok (.invokestatic 132, 3) := by decide +kernel
theorem dX3_loadPart_65 : decode cX3_loadPart 65 = .ok (.istore 6, 2) := by decide +kernel
theorem dX3_loadPart_67 : decode cX3_loadPart 67 = .ok (.aload_n 0, 1) := by decide +kernel
theorem dX3_loadPart_68 : decode cX3_loadPart 68 = .ok (.getfield 23, 3) := by decide +kernel
theorem dX3_loadPart_71 : decode cX3_loadPart 71 = .ok (.getfield 89, 3) := by decide +kernel
theorem dX3_loadPart_74 : decode cX3_loadPart 74 = .ok (.iload 5, 2) := by decide +kernel
theorem dX3_loadPart_76 : decode cX3_loadPart 76 = .ok (.iload 6, 2) := by decide +kernel
theorem dX3_loadPart_78 : decode cX3_loadPart 78 = .ok (.iastore, 1) := by decide +kernel
theorem dX3_loadPart_79 : decode cX3_loadPart 79 = .ok (.iload 6, 2) := by decide +kernel
theorem dX3_loadPart_81 : decode cX3_loadPart 81 = .ok (.ireturn, 1) := by decide +kernel
set_option maxRecDepth 20000 in
theorem ggX3_storeWord_X5_isTask : GoodIn wsX3_storeWord wsX5_isTask := goodIn_r _ [6] (by decide +kernel) (by decide +kernel)
set_option maxRecDepth 20000 in
theorem gX3_storeWord_X5_isTask_n117 : GoodIn wsX3_storeWord (wsX5_isTask) := ggX3_storeWord_X5_isTask
set_option maxRecDepth 20000 in
theorem ggX3_storeWord_X5_isRegister : GoodIn wsX3_storeWord wsX5_isRegister := goodIn_r _ [8] (by decide +kernel) (by decide +kernel)
set_option maxRecDepth 20000 in
theorem gX3_storeWord_X5_isRegister_n123 : GoodIn wsX3_storeWord (wsX5_isRegister) := ggX3_storeWord_X5_isRegister
set_option maxRecDepth 20000 in
theorem ggX3_storeWord_X5_isWord : GoodIn wsX3_storeWord wsX5_isWord := goodIn_r _ [10] (by decide +kernel) (by decide +kernel)
set_option maxRecDepth 20000 in
theorem gX3_storeWord_X5_isWord_n71 : GoodIn wsX3_storeWord (wsX5_isWord) := ggX3_storeWord_X5_isWord
set_option maxRecDepth 20000 in
theorem ggX3_storeWord_X5_cellOf : GoodIn wsX3_storeWord wsX5_cellOf := goodIn_r _ [12] (by decide +kernel) (by decide +kernel)
set_option maxRecDepth 20000 in
theorem gX3_storeWord_X5_cellOf_n120 : GoodIn wsX3_storeWord (wsX5_cellOf) := ggX3_storeWord_X5_cellOf
set_option maxRecDepth 20000 in
theorem ggX3_storeWord_X3_putMarked : GoodIn wsX3_storeWord wsX3_putMarked := goodIn_r _ [17, 3, 18, 19, 20, 21, 22, 23, 24, 25, 26, 27, 28, 29, 30, 31, 32, 33, 34, 35, 36, 37, 38, 39, 16, 40, 41, 42, 43, 44, 45, 46, 47, 48, 49, 50, 51, 53, 54, 55, 56, 57, 58, 59, 60, 61, 62, 63, 64, 65] (by decide +kernel) (by decide +kernel)
set_option maxRecDepth 20000 in
theorem gX3_storeWord_X3_putMarked : GoodIn wsX3_storeWord (wsV RX3 92 RX3 yX3_putMarked wsX3_putMarked) := goodIn_app (goodIn_of _ (by decide +kernel)) ggX3_storeWord_X3_putMarked
set_option maxRecDepth 20000 in
theorem ggX3_storeWord_X0_isPoisoned : GoodIn wsX3_storeWord wsX0_isPoisoned := goodIn_r _ [32, 23, 63, 64, 65] (by decide +kernel) (by decide +kernel)
set_option maxRecDepth 20000 in
theorem gX3_storeWord_X0_isPoisoned : GoodIn wsX3_storeWord (wsV RX3 135 RX0 yX0_isPoisoned wsX0_isPoisoned) := goodIn_app (goodIn_of _ (by decide +kernel)) ggX3_storeWord_X0_isPoisoned
theorem dX3_storeWord_0 : decode cX3_storeWord 0 = .ok (.iload_n 1, 1) := by decide +kernel
theorem dX3_storeWord_1 : decode cX3_storeWord 1 = .ok (.invokestatic 117, 3) := by decide +kernel
theorem dX3_storeWord_4 : decode cX3_storeWord 4 = .ok (.ifCond .eq 17, 3) := by decide +kernel
theorem dX3_storeWord_7 : decode cX3_storeWord 7 = .ok (.iload_n 2, 1) := by decide +kernel
theorem dX3_storeWord_8 : decode cX3_storeWord 8 = .ok (.invokestatic 123, 3) := by decide +kernel
theorem dX3_storeWord_11 : decode cX3_storeWord 11 = .ok (.ifCond .eq 10, 3) := by decide +kernel
theorem dX3_storeWord_14 : decode cX3_storeWord 14 = .ok (.iload_n 3, 1) := by decide +kernel
theorem dX3_storeWord_15 : decode cX3_storeWord 15 = .ok (.invokestatic 71, 3) := by decide +kernel
theorem dX3_storeWord_18 : decode cX3_storeWord 18 = .ok (.ifCond .ne 5, 3) := by decide +kernel
theorem dX3_storeWord_21 : decode cX3_storeWord 21 = .ok (.iconst (-1), 1) := by decide +kernel
theorem dX3_storeWord_22 : decode cX3_storeWord 22 = .ok (.ireturn, 1) := by decide +kernel
theorem dX3_storeWord_23 : decode cX3_storeWord 23 = .ok (.aload_n 0, 1) := by decide +kernel
theorem dX3_storeWord_24 : decode cX3_storeWord 24 = .ok (.getfield 34, 3) := by decide +kernel
theorem dX3_storeWord_27 : decode cX3_storeWord 27 = .ok (.iload_n 1, 1) := by decide +kernel
theorem dX3_storeWord_28 : decode cX3_storeWord 28 = .ok (.baload, 1) := by decide +kernel
theorem dX3_storeWord_29 : decode cX3_storeWord 29 = .ok (.ifCond .eq 6, 3) := by decide +kernel
theorem dX3_storeWord_32 : decode cX3_storeWord 32 = .ok (.bipush (-5), 2) := by decide +kernel
theorem dX3_storeWord_34 : decode cX3_storeWord 34 = .ok (.ireturn, 1) := by decide +kernel
theorem dX3_storeWord_35 : decode cX3_storeWord 35 = .ok (.iload_n 1, 1) := by decide +kernel
theorem dX3_storeWord_36 : decode cX3_storeWord 36 = .ok (.iload_n 2, 1) := by decide +kernel
theorem dX3_storeWord_37 : decode cX3_storeWord 37 = .ok (.invokestatic 120, 3) := by decide +kernel
theorem dX3_storeWord_40 : decode cX3_storeWord 40 = .ok (.istore 4, 2) := by decide +kernel
theorem dX3_storeWord_42 : decode cX3_storeWord 42 = .ok (.aload_n 0, 1) := by decide +kernel
theorem dX3_storeWord_43 : decode cX3_storeWord 43 = .ok (.iload_n 3, 1) := by decide +kernel
theorem dX3_storeWord_44 : decode cX3_storeWord 44 = .ok (.aload_n 0, 1) := by decide +kernel
theorem dX3_storeWord_45 : decode cX3_storeWord 45 = .ok (.getfield 23, 3) := by decide +kernel
theorem dX3_storeWord_48 : decode cX3_storeWord 48 = .ok (.getfield 89, 3) := by decide +kernel
theorem dX3_storeWord_51 : decode cX3_storeWord 51 = .ok (.iload 4, 2) := by decide +kernel
theorem dX3_storeWord_53 : decode cX3_storeWord 53 = .ok (.iaload, 1) := by decide +kernel
theorem dX3_storeWord_54 : decode cX3_storeWord 54 = .ok (.aload_n 0, 1) := by decide +kernel
theorem dX3_storeWord_55 : decode cX3_storeWord 55 = .ok (.getfield 23, 3) := by decide +kernel
theorem dX3_storeWord_58 : decode cX3_storeWord 58 = .ok (.iload 4, 2) := by decide +kernel
theorem dX3_storeWord_60 : decode cX3_storeWord 60 = .ok (.invokevirtual 92, 3) := by decide +kernel
theorem dX3_storeWord_63 : decode cX3_storeWord 63 = .ok (.aload_n 0, 1) := by decide +kernel
theorem dX3_storeWord_64 : decode cX3_storeWord 64 = .ok (.getfield 14, 3) := by decide +kernel
theorem dX3_storeWord_67 : decode cX3_storeWord 67 = .ok (.iload_n 3, 1) := by decide +kernel
theorem dX3_storeWord_68 : decode cX3_storeWord 68 = .ok (.invokevirtual 135, 3) := by decide +kernel
theorem dX3_storeWord_71 : decode cX3_storeWord 71 = .ok (.ifCond .eq 7, 3) := by decide +kernel
theorem dX3_storeWord_74 : decode cX3_storeWord 74 = .ok (.iconst 1, 1) := by decide +kernel
theorem dX3_storeWord_75 : decode cX3_storeWord 75 = .ok (.goto 4, 3) := by decide +kernel
theorem dX3_storeWord_78 : decode cX3_storeWord 78 = .ok (.iconst 0, 1) := by decide +kernel
theorem dX3_storeWord_79 : decode cX3_storeWord 79 = .ok (.ireturn, 1) := by decide +kernel
set_option maxRecDepth 20000 in
theorem ggX3_storePart_X5_isTask : GoodIn wsX3_storePart wsX5_isTask := goodIn_r _ [6] (by decide +kernel) (by decide +kernel)
set_option maxRecDepth 20000 in
theorem gX3_storePart_X5_isTask_n117 : GoodIn wsX3_storePart (wsX5_isTask) := ggX3_storePart_X5_isTask
set_option maxRecDepth 20000 in
theorem ggX3_storePart_X5_isRegister : GoodIn wsX3_storePart wsX5_isRegister := goodIn_r _ [8] (by decide +kernel) (by decide +kernel)
set_option maxRecDepth 20000 in
theorem gX3_storePart_X5_isRegister_n123 : GoodIn wsX3_storePart (wsX5_isRegister) := ggX3_storePart_X5_isRegister
set_option maxRecDepth 20000 in
theorem ggX3_storePart_X5_isWord : GoodIn wsX3_storePart wsX5_isWord := goodIn_r _ [10] (by decide +kernel) (by decide +kernel)
set_option maxRecDepth 20000 in
theorem gX3_storePart_X5_isWord_n71 : GoodIn wsX3_storePart (wsX5_isWord) := ggX3_storePart_X5_isWord
set_option maxRecDepth 20000 in
theorem ggX3_storePart_X5_isPart : GoodIn wsX3_storePart wsX5_isPart := goodIn_r _ [12] (by decide +kernel) (by decide +kernel)
set_option maxRecDepth 20000 in
theorem gX3_storePart_X5_isPart_n129 : GoodIn wsX3_storePart (wsX5_isPart) := ggX3_storePart_X5_isPart
set_option maxRecDepth 20000 in
theorem ggX3_storePart_X3_fetch : GoodIn wsX3_storePart wsX3_fetch := goodIn_r _ [17, 3, 18, 19, 20, 21, 22, 16, 23, 24, 25, 26, 27, 28, 29, 30, 31, 32, 33, 34, 35, 36, 37, 38, 39, 40, 41, 42, 43, 44, 62, 63, 64, 65, 66, 67, 68, 69, 70, 71, 72, 73, 74] (by decide +kernel) (by decide +kernel)
set_option maxRecDepth 20000 in
theorem gX3_storePart_X3_fetch : GoodIn wsX3_storePart (wsV RX3 82 RX3 yX3_fetch wsX3_fetch) := goodIn_app (goodIn_of _ (by decide +kernel)) ggX3_storePart_X3_fetch
set_option maxRecDepth 20000 in
theorem ggX3_storePart_X5_cellOf : GoodIn wsX3_storePart wsX5_cellOf := goodIn_r _ [46] (by decide +kernel) (by decide +kernel)
set_option maxRecDepth 20000 in
theorem gX3_storePart_X5_cellOf_n120 : GoodIn wsX3_storePart (wsX5_cellOf) := ggX3_storePart_X5_cellOf
set_option maxRecDepth 20000 in
theorem ggX3_storePart_X5_byteOf : GoodIn wsX3_storePart wsX5_byteOf := goodIn_r _ [48] (by decide +kernel) (by decide +kernel)
set_option maxRecDepth 20000 in
theorem gX3_storePart_X5_byteOf_n132 : GoodIn wsX3_storePart (wsX5_byteOf) := ggX3_storePart_X5_byteOf
set_option maxRecDepth 20000 in
theorem ggX3_storePart_X0_isPoisoned : GoodIn wsX3_storePart wsX0_isPoisoned := goodIn_r _ [28, 29, 72, 73, 74] (by decide +kernel) (by decide +kernel)
set_option maxRecDepth 20000 in
theorem gX3_storePart_X0_isPoisoned : GoodIn wsX3_storePart (wsV RX3 135 RX0 yX0_isPoisoned wsX0_isPoisoned) := goodIn_app (goodIn_of _ (by decide +kernel)) ggX3_storePart_X0_isPoisoned
set_option maxRecDepth 20000 in
theorem ggX3_storePart_X0_copyMark : GoodIn wsX3_storePart wsX0_copyMark := goodIn_r _ [52, 29, 40, 53, 54, 55, 56, 57, 25, 26, 27, 28, 41, 42, 43, 44, 72, 73, 74] (by decide +kernel) (by decide +kernel)
set_option maxRecDepth 20000 in
theorem gX3_storePart_X0_copyMark : GoodIn wsX3_storePart (wsV RX3 138 RX0 yX0_copyMark wsX0_copyMark) := goodIn_app (goodIn_of _ (by decide +kernel)) ggX3_storePart_X0_copyMark
set_option maxRecDepth 20000 in
theorem ggX3_storePart_X3_updateSecond : GoodIn wsX3_storePart wsX3_updateSecond := goodIn_r _ [61, 18, 3, 30, 31, 32, 16, 33, 34, 35, 36, 37, 27, 38, 39, 29, 40, 41, 42, 43, 44, 62, 63, 64, 65, 66, 67, 68, 69, 70, 71, 72, 73, 74] (by decide +kernel) (by decide +kernel)
set_option maxRecDepth 20000 in
theorem gX3_storePart_X3_updateSecond : GoodIn wsX3_storePart (wsV RX3 107 RX3 yX3_updateSecond wsX3_updateSecond) := goodIn_app (goodIn_of _ (by decide +kernel)) ggX3_storePart_X3_updateSecond
theorem dX3_storePart_0 : decode cX3_storePart 0 = .ok (.iload_n 1, 1) := by decide +kernel
theorem dX3_storePart_1 : decode cX3_storePart 1 = .ok (.invokestatic 117, 3) := by decide +kernel
theorem dX3_storePart_4 : decode cX3_storePart 4 = .ok (.ifCond .eq 17, 3) := by decide +kernel
theorem dX3_storePart_7 : decode cX3_storePart 7 = .ok (.iload_n 2, 1) := by decide +kernel
theorem dX3_storePart_8 : decode cX3_storePart 8 = .ok (.invokestatic 123, 3) := by decide +kernel
theorem dX3_storePart_11 : decode cX3_storePart 11 = .ok (.ifCond .eq 10, 3) := by decide +kernel
theorem dX3_storePart_14 : decode cX3_storePart 14 = .ok (.iload_n 3, 1) := by decide +kernel
theorem dX3_storePart_15 : decode cX3_storePart 15 = .ok (.invokestatic 71, 3) := by decide +kernel
theorem dX3_storePart_18 : decode cX3_storePart 18 = .ok (.ifCond .ne 5, 3) := by decide +kernel
theorem dX3_storePart_21 : decode cX3_storePart 21 = .ok (.iconst (-1), 1) := by decide +kernel
theorem dX3_storePart_22 : decode cX3_storePart 22 = .ok (.ireturn, 1) := by decide +kernel
theorem dX3_storePart_23 : decode cX3_storePart 23 = .ok (.iload 4, 2) := by decide +kernel
theorem dX3_storePart_25 : decode cX3_storePart 25 = .ok (.invokestatic 129, 3) := by decide +kernel
theorem dX3_storePart_28 : decode cX3_storePart 28 = .ok (.ifCond .ne 6, 3) := by decide +kernel
theorem dX3_storePart_31 : decode cX3_storePart 31 = .ok (.bipush (-2), 2) := by decide +kernel
theorem dX3_storePart_33 : decode cX3_storePart 33 = .ok (.ireturn, 1) := by decide +kernel
theorem dX3_storePart_34 : decode cX3_storePart 34 = .ok (.aload_n 0, 1) := by decide +kernel
theorem dX3_storePart_35 : decode cX3_storePart 35 = .ok (.getfield 34, 3) := by decide +kernel
theorem dX3_storePart_38 : decode cX3_storePart 38 = .ok (.iload_n 1, 1) := by decide +kernel
theorem dX3_storePart_39 : decode cX3_storePart 39 = .ok (.baload, 1) := by decide +kernel
theorem dX3_storePart_40 : decode cX3_storePart 40 = .ok (.ifCond .eq 6, 3) := by decide +kernel
theorem dX3_storePart_43 : decode cX3_storePart 43 = .ok (.bipush (-5), 2) := by decide +kernel
theorem dX3_storePart_45 : decode cX3_storePart 45 = .ok (.ireturn, 1) := by decide +kernel
theorem dX3_storePart_46 : decode cX3_storePart 46 = .ok (.aload_n 0, 1) := by decide +kernel
theorem dX3_storePart_47 : decode cX3_storePart 47 = .ok (.iload_n 3, 1) := by decide +kernel
theorem dX3_storePart_48 : decode cX3_storePart 48 = .ok (.invokevirtual 82, 3) := by decide +kernel
theorem dX3_storePart_51 : decode cX3_storePart 51 = .ok (.iload_n 1, 1) := by decide +kernel
theorem dX3_storePart_52 : decode cX3_storePart 52 = .ok (.iload_n 2, 1) := by decide +kernel
theorem dX3_storePart_53 : decode cX3_storePart 53 = .ok (.invokestatic 120, 3) := by decide +kernel
theorem dX3_storePart_56 : decode cX3_storePart 56 = .ok (.istore 5, 2) := by decide +kernel
theorem dX3_storePart_58 : decode cX3_storePart 58 = .ok (.aload_n 0, 1) := by decide +kernel
theorem dX3_storePart_59 : decode cX3_storePart 59 = .ok (.getfield 23, 3) := by decide +kernel
theorem dX3_storePart_62 : decode cX3_storePart 62 = .ok (.getfield 89, 3) := by decide +kernel
theorem dX3_storePart_65 : decode cX3_storePart 65 = .ok (.iload 5, 2) := by decide +kernel
theorem dX3_storePart_67 : decode cX3_storePart 67 = .ok (.iaload, 1) := by decide +kernel
theorem dX3_storePart_68 : decode cX3_storePart 68 = .ok (.iconst 0, 1) := by decide +kernel
theorem dX3_storePart_69 : decode cX3_storePart 69 = .ok (.invokestatic 132, 3) := by decide +kernel
theorem dX3_storePart_72 : decode cX3_storePart 72 = .ok (.bipush 8, 2) := by decide +kernel
theorem dX3_storePart_74 : decode cX3_storePart 74 = .ok (.iload 4, 2) := by decide +kernel
theorem dX3_storePart_76 : decode cX3_storePart 76 = .ok (.imul, 1) := by decide +kernel
theorem dX3_storePart_77 : decode cX3_storePart 77 = .ok (.ishl, 1) := by decide +kernel
theorem dX3_storePart_78 : decode cX3_storePart 78 = .ok (.istore 6, 2) := by decide +kernel
theorem dX3_storePart_80 : decode cX3_storePart 80 = .ok (.aload_n 0, 1) := by decide +kernel
theorem dX3_storePart_81 : decode cX3_storePart 81 = .ok (.getfield 14, 3) := by decide +kernel
theorem dX3_storePart_84 : decode cX3_storePart 84 = .ok (.getfield 89, 3) := by decide +kernel
theorem dX3_storePart_87 : decode cX3_storePart 87 = .ok (.iload_n 3, 1) := by decide +kernel
theorem dX3_storePart_88 : decode cX3_storePart 88 = .ok (.iaload, 1) := by decide +kernel
theorem dX3_storePart_89 : decode cX3_storePart 89 = .ok (.sipush 255, 3) := by decide +kernel
theorem dX3_storePart_92 : decode cX3_storePart 92 = .ok (.bipush 8, 2) := by decide +kernel
theorem dX3_storePart_94 : decode cX3_storePart 94 = .ok (.iconst 1, 1) := by decide +kernel
theorem dX3_storePart_95 : decode cX3_storePart 95 = .ok (.iload 4, 2) := by decide +kernel
theorem dX3_storePart_97 : decode cX3_storePart 97 = .ok (.isub, 1) := by decide +kernel
theorem dX3_storePart_98 : decode cX3_storePart 98 = .ok (.imul, 1) := by decide +kernel
theorem dX3_storePart_99 : decode cX3_storePart 99 = .ok (.ishl, 1) := by decide +kernel
theorem dX3_storePart_100 : decode cX3_storePart 100 = .ok (.iand, 1) := by decide +kernel
theorem dX3_storePart_101 : decode cX3_storePart 101 = .ok (.istore 7, 2) := by decide +kernel
theorem dX3_storePart_103 : decode cX3_storePart 103 = .ok (.aload_n 0, 1) := by decide +kernel
theorem dX3_storePart_104 : decode cX3_storePart 104 = .ok (.getfield 14, 3) := by decide +kernel
theorem dX3_storePart_107 : decode cX3_storePart 107 = .ok (.getfield 89, 3) := by decide +kernel
theorem dX3_storePart_110 : decode cX3_storePart 110 = .ok (.iload_n 3, 1) := by decide +kernel
theorem dX3_storePart_111 : decode cX3_storePart 111 = .ok (.iload 7, 2) := by decide +kernel
theorem dX3_storePart_113 : decode cX3_storePart 113 = .ok (.iload 6, 2) := by decide +kernel
theorem dX3_storePart_115 : decode cX3_storePart 115 = .ok (.ior, 1) := by decide +kernel
theorem dX3_storePart_116 : decode cX3_storePart 116 = .ok (.iastore, 1) := by decide +kernel
theorem dX3_storePart_117 : decode cX3_storePart 117 = .ok (.aload_n 0, 1) := by decide +kernel
theorem dX3_storePart_118 : decode cX3_storePart 118 = .ok (.getfield 23, 3) := by decide +kernel
theorem dX3_storePart_121 : decode cX3_storePart 121 = .ok (.iload 5, 2) := by decide +kernel
theorem dX3_storePart_123 : decode cX3_storePart 123 = .ok (.invokevirtual 135, 3) := by decide +kernel
theorem dX3_storePart_126 : decode cX3_storePart 126 = .ok (.ifCond .eq 17, 3) := by decide +kernel
theorem dX3_storePart_129 : decode cX3_storePart 129 = .ok (.aload_n 0, 1) := by decide +kernel
theorem dX3_storePart_130 : decode cX3_storePart 130 = .ok (.getfield 14, 3) := by decide +kernel
theorem dX3_storePart_133 : decode cX3_storePart 133 = .ok (.iload_n 3, 1) := by decide +kernel
theorem dX3_storePart_134 : decode cX3_storePart 134 = .ok (.aload_n 0, 1) := by decide +kernel
theorem dX3_storePart_135 : decode cX3_storePart 135 = .ok (.getfield 23, 3) := by decide +kernel
theorem dX3_storePart_138 : decode cX3_storePart 138 = .ok (.iload 5, 2) := by decide +kernel
theorem dX3_storePart_140 : decode cX3_storePart 140 = .ok (.invokevirtual 138, 3) := by decide +kernel
theorem dX3_storePart_143 : decode cX3_storePart 143 = .ok (.aload_n 0, 1) := by decide +kernel
theorem dX3_storePart_144 : decode cX3_storePart 144 = .ok (.iload_n 3, 1) := by decide +kernel
theorem dX3_storePart_145 : decode cX3_storePart 145 = .ok (.invokevirtual 107, 3) := by decide +kernel
theorem dX3_storePart_148 : decode cX3_storePart 148 = .ok (.aload_n 0, 1) := by decide +kernel
theorem dX3_storePart_149 : decode cX3_storePart 149 = .ok (.getfield 14, 3) := by decide +kernel
theorem dX3_storePart_152 : decode cX3_storePart 152 = .ok (.iload_n 3, 1) := by decide +kernel
theorem dX3_storePart_153 : decode cX3_storePart 153 = .ok (.invokevirtual 135, 3) := by decide +kernel
theorem dX3_storePart_156 : decode cX3_storePart 156 = .ok (.ifCond .eq 7, 3) := by decide +kernel
theorem dX3_storePart_159 : decode cX3_storePart 159 = .ok (.iconst 1, 1) := by decide +kernel
theorem dX3_storePart_160 : decode cX3_storePart 160 = .ok (.goto 4, 3) := by decide +kernel
theorem dX3_storePart_163 : decode cX3_storePart 163 = .ok (.iconst 0, 1) := by decide +kernel
theorem dX3_storePart_164 : decode cX3_storePart 164 = .ok (.ireturn, 1) := by decide +kernel
set_option maxRecDepth 20000 in
theorem ggX3_moveRegister_X5_isTask : GoodIn wsX3_moveRegister wsX5_isTask := goodIn_r _ [5] (by decide +kernel) (by decide +kernel)
set_option maxRecDepth 20000 in
theorem gX3_moveRegister_X5_isTask_n117 : GoodIn wsX3_moveRegister (wsX5_isTask) := ggX3_moveRegister_X5_isTask
set_option maxRecDepth 20000 in
theorem ggX3_moveRegister_X5_isRegister : GoodIn wsX3_moveRegister wsX5_isRegister := goodIn_r _ [7] (by decide +kernel) (by decide +kernel)
set_option maxRecDepth 20000 in
theorem gX3_moveRegister_X5_isRegister_n123 : GoodIn wsX3_moveRegister (wsX5_isRegister) := ggX3_moveRegister_X5_isRegister
set_option maxRecDepth 20000 in
theorem ggX3_moveRegister_X5_cellOf : GoodIn wsX3_moveRegister wsX5_cellOf := goodIn_r _ [9] (by decide +kernel) (by decide +kernel)
set_option maxRecDepth 20000 in
theorem gX3_moveRegister_X5_cellOf_n120 : GoodIn wsX3_moveRegister (wsX5_cellOf) := ggX3_moveRegister_X5_cellOf
set_option maxRecDepth 20000 in
theorem ggX3_moveRegister_X0_copyMark : GoodIn wsX3_moveRegister wsX0_copyMark := goodIn_r _ [14, 15, 16, 17, 18, 19, 20, 21, 22, 23, 13, 24, 25, 26, 27, 28, 39, 40, 41] (by decide +kernel) (by decide +kernel)
set_option maxRecDepth 20000 in
theorem gX3_moveRegister_X0_copyMark : GoodIn wsX3_moveRegister (wsV RX3 138 RX0 yX0_copyMark wsX0_copyMark) := goodIn_app (goodIn_of _ (by decide +kernel)) ggX3_moveRegister_X0_copyMark
theorem dX3_moveRegister_0 : decode cX3_moveRegister 0 = .ok (.iload_n 1, 1) := by decide +kernel
theorem dX3_moveRegister_1 : decode cX3_moveRegister 1 = .ok (.invokestatic 117, 3) := by decide +kernel
theorem dX3_moveRegister_4 : decode cX3_moveRegister 4 = .ok (.ifCond .eq 17, 3) := by decide +kernel
theorem dX3_moveRegister_7 : decode cX3_moveRegister 7 = .ok (.iload_n 2, 1) := by decide +kernel
theorem dX3_moveRegister_8 : decode cX3_moveRegister 8 = .ok (.invokestatic 123, 3) := by decide +kernel
theorem dX3_moveRegister_11 : decode cX3_moveRegister 11 = .ok (.ifCond .eq 10, 3) := by decide +kernel
theorem dX3_moveRegister_14 : decode cX3_moveRegister 14 = .ok (.iload_n 3, 1) := by decide +kernel
theorem dX3_moveRegister_15 : decode cX3_moveRegister 15 = .ok (.invokestatic 123, 3) := by decide +kernel
theorem dX3_moveRegister_18 : decode cX3_moveRegister 18 = .ok (.ifCond .ne 5, 3) := by decide +kernel
theorem dX3_moveRegister_21 : decode cX3_moveRegister 21 = .ok (.iconst (-1), 1) := by decide +kernel
theorem dX3_moveRegister_22 : decode cX3_moveRegister 22 = .ok (.ireturn, 1) := by decide +kernel
theorem dX3_moveRegister_23 : decode cX3_moveRegister 23 = .ok (.aload_n 0, 1) := by decide +kernel
theorem dX3_moveRegister_24 : decode cX3_moveRegister 24 = .ok (.getfield 34, 3) := by decide +kernel
theorem dX3_moveRegister_27 : decode cX3_moveRegister 27 = .ok (.iload_n 1, 1) := by decide +kernel
theorem dX3_moveRegister_28 : decode cX3_moveRegister 28 = .ok (.baload, 1) := by decide +kernel
theorem dX3_moveRegister_29 : decode cX3_moveRegister 29 = .ok (.ifCond .eq 6, 3) := by decide +kernel
theorem dX3_moveRegister_32 : decode cX3_moveRegister 32 = .ok (.bipush (-5), 2) := by decide +kernel
theorem dX3_moveRegister_34 : decode cX3_moveRegister 34 = .ok (.ireturn, 1) := by decide +kernel
theorem dX3_moveRegister_35 : decode cX3_moveRegister 35 = .ok (.iload_n 1, 1) := by decide +kernel
theorem dX3_moveRegister_36 : decode cX3_moveRegister 36 = .ok (.iload_n 2, 1) := by decide +kernel
theorem dX3_moveRegister_37 : decode cX3_moveRegister 37 = .ok (.invokestatic 120, 3) := by decide +kernel
theorem dX3_moveRegister_40 : decode cX3_moveRegister 40 = .ok (.istore 4, 2) := by decide +kernel
theorem dX3_moveRegister_42 : decode cX3_moveRegister 42 = .ok (.iload_n 1, 1) := by decide +kernel
theorem dX3_moveRegister_43 : decode cX3_moveRegister 43 = .ok (.iload_n 3, 1) := by decide +kernel
theorem dX3_moveRegister_44 : decode cX3_moveRegister 44 = .ok (.invokestatic 120, 3) := by decide +kernel
theorem dX3_moveRegister_47 : decode cX3_moveRegister 47 = .ok (.istore 5, 2) := by decide +kernel
theorem dX3_moveRegister_49 : decode cX3_moveRegister 49 = .ok (.aload_n 0, 1) := by decide +kernel
theorem dX3_moveRegister_50 : decode cX3_moveRegister 50 = .ok (.getfield 23, 3) := by decide +kernel
theorem dX3_moveRegister_53 : decode cX3_moveRegister 53 = .ok (.getfield 89, 3) := by decide +kernel
theorem dX3_moveRegister_56 : decode cX3_moveRegister 56 = .ok (.iload 4, 2) := by decide +kernel
theorem dX3_moveRegister_58 : decode cX3_moveRegister 58 = .ok (.aload_n 0, 1) := by decide +kernel
theorem dX3_moveRegister_59 : decode cX3_moveRegister 59 = .ok (.getfield 23, 3) := by decide +kernel
theorem dX3_moveRegister_62 : decode cX3_moveRegister 62 = .ok (.getfield 89, 3) := by decide +kernel
theorem dX3_moveRegister_65 : decode cX3_moveRegister 65 = .ok (.iload 5, 2) := by decide +kernel
theorem dX3_moveRegister_67 : decode cX3_moveRegister 67 = .ok (.iaload, 1) := by decide +kernel
theorem dX3_moveRegister_68 : decode cX3_moveRegister 68 = .ok (.iastore, 1) := by decide +kernel
theorem dX3_moveRegister_69 : decode cX3_moveRegister 69 = .ok (.aload_n 0, 1) := by decide +kernel
theorem dX3_moveRegister_70 : decode cX3_moveRegister 70 = .ok (.getfield 23, 3) := by decide +kernel
theorem dX3_moveRegister_73 : decode cX3_moveRegister 73 = .ok (.iload 4, 2) := by decide +kernel
theorem dX3_moveRegister_75 : decode cX3_moveRegister 75 = .ok (.aload_n 0, 1) := by decide +kernel
theorem dX3_moveRegister_76 : decode cX3_moveRegister 76 = .ok (.getfield 23, 3) := by decide +kernel
theorem dX3_moveRegister_79 : decode cX3_moveRegister 79 = .ok (.iload 5, 2) := by decide +kernel
theorem dX3_moveRegister_81 : decode cX3_moveRegister 81 = .ok (.invokevirtual 138, 3) := by decide +kernel
theorem dX3_moveRegister_84 : decode cX3_moveRegister 84 = .ok (.aload_n 0, 1) := by decide +kernel
theorem dX3_moveRegister_85 : decode cX3_moveRegister 85 = .ok (.getfield 23, 3) := by decide +kernel
theorem dX3_moveRegister_88 : decode cX3_moveRegister 88 = .ok (.getfield 89, 3) := by decide +kernel
theorem dX3_moveRegister_91 : decode cX3_moveRegister 91 = .ok (.iload 4, 2) := by decide +kernel
theorem dX3_moveRegister_93 : decode cX3_moveRegister 93 = .ok (.iaload, 1) := by decide +kernel
theorem dX3_moveRegister_94 : decode cX3_moveRegister 94 = .ok (.ireturn, 1) := by decide +kernel
set_option maxRecDepth 20000 in
theorem ggX3_computeRegister_X5_isTask : GoodIn wsX3_computeRegister wsX5_isTask := goodIn_r _ [5] (by decide +kernel) (by decide +kernel)
set_option maxRecDepth 20000 in
theorem gX3_computeRegister_X5_isTask_n117 : GoodIn wsX3_computeRegister (wsX5_isTask) := ggX3_computeRegister_X5_isTask
set_option maxRecDepth 20000 in
theorem ggX3_computeRegister_X5_isRegister : GoodIn wsX3_computeRegister wsX5_isRegister := goodIn_r _ [7] (by decide +kernel) (by decide +kernel)
set_option maxRecDepth 20000 in
theorem gX3_computeRegister_X5_isRegister_n123 : GoodIn wsX3_computeRegister (wsX5_isRegister) := ggX3_computeRegister_X5_isRegister
set_option maxRecDepth 20000 in
theorem ggX3_computeRegister_X3_mayUse : GoodIn wsX3_computeRegister wsX3_mayUse := goodIn_r _ [12, 2, 13, 14, 1, 15, 4, 16, 17, 18, 19, 20, 21, 22, 23, 24, 25, 26, 27, 28, 29, 30, 31, 32, 33, 34, 35, 36, 37, 38, 39, 40, 41, 11, 42, 43, 44, 45, 46, 47, 48, 49, 50, 51, 52, 57, 58, 59, 60, 61, 62, 63, 64, 65, 66, 67, 68, 69, 70, 71, 72] (by decide +kernel) (by decide +kernel)
set_option maxRecDepth 20000 in
theorem gX3_computeRegister_X3_mayUse : GoodIn wsX3_computeRegister (wsV RX3 141 RX3 yX3_mayUse wsX3_mayUse) := goodIn_app (goodIn_of _ (by decide +kernel)) ggX3_computeRegister_X3_mayUse
set_option maxRecDepth 20000 in
theorem ggX3_computeRegister_X5_cellOf : GoodIn wsX3_computeRegister wsX5_cellOf := goodIn_r _ [16] (by decide +kernel) (by decide +kernel)
set_option maxRecDepth 20000 in
theorem gX3_computeRegister_X5_cellOf_n120 : GoodIn wsX3_computeRegister (wsX5_cellOf) := ggX3_computeRegister_X5_cellOf
set_option maxRecDepth 20000 in
theorem ggX3_computeRegister_X3_calculate : GoodIn wsX3_computeRegister wsX3_calculate := goodIn_r _ [55, 56] (by decide +kernel) (by decide +kernel)
set_option maxRecDepth 20000 in
theorem gX3_computeRegister_X3_calculate : GoodIn wsX3_computeRegister (va_wsS RX3 145 yX3_calculate wsX3_calculate) := goodIn_app (goodIn_of _ (by decide +kernel)) ggX3_computeRegister_X3_calculate
set_option maxRecDepth 20000 in
theorem ggX3_computeRegister_X0_setClean : GoodIn wsX3_computeRegister wsX0_setClean := goodIn_r _ [46, 47, 48, 49, 50, 20, 51, 22, 52, 67, 68, 69] (by decide +kernel) (by decide +kernel)
set_option maxRecDepth 20000 in
theorem gX3_computeRegister_X0_setClean : GoodIn wsX3_computeRegister (wsV RX3 103 RX0 yX0_setClean wsX0_setClean) := goodIn_app (goodIn_of _ (by decide +kernel)) ggX3_computeRegister_X0_setClean
theorem dX3_computeRegister_0 : decode cX3_computeRegister 0 = .ok (.iload_n 1, 1) := by decide +kernel
theorem dX3_computeRegister_1 : decode cX3_computeRegister 1 = .ok (.invokestatic 117, 3) := by decide +kernel
theorem dX3_computeRegister_4 : decode cX3_computeRegister 4 = .ok (.ifCond .eq 26, 3) := by decide +kernel
theorem dX3_computeRegister_7 : decode cX3_computeRegister 7 = .ok (.iload_n 3, 1) := by decide +kernel
theorem dX3_computeRegister_8 : decode cX3_computeRegister 8 = .ok (.invokestatic 123, 3) := by decide +kernel
theorem dX3_computeRegister_11 : decode cX3_computeRegister 11 = .ok (.ifCond .eq 19, 3) := by decide +kernel
theorem dX3_computeRegister_14 : decode cX3_computeRegister 14 = .ok (.iload 4, 2) := by decide +kernel
theorem dX3_computeRegister_16 : decode cX3_computeRegister 16 = .ok (.invokestatic 123, 3) := by decide +kernel
theorem dX3_computeRegister_19 : decode cX3_computeRegister 19 = .ok (.ifCond .eq 11, 3) := by decide +kernel
theorem dX3_computeRegister_22 : decode cX3_computeRegister 22 = .ok (.iload 5, 2) := by decide +kernel
theorem dX3_computeRegister_24 : decode cX3_computeRegister 24 = .ok (.invokestatic 123, 3) := by decide +kernel
theorem dX3_computeRegister_27 : decode cX3_computeRegister 27 = .ok (.ifCond .ne 5, 3) := by decide +kernel
theorem dX3_computeRegister_30 : decode cX3_computeRegister 30 = .ok (.iconst (-1), 1) := by decide +kernel
theorem dX3_computeRegister_31 : decode cX3_computeRegister 31 = .ok (.ireturn, 1) := by decide +kernel
theorem dX3_computeRegister_32 : decode cX3_computeRegister 32 = .ok (.iload_n 2, 1) := by decide +kernel
theorem dX3_computeRegister_33 : decode cX3_computeRegister 33 = .ok (.ifCond .lt 8, 3) := by decide +kernel
theorem dX3_computeRegister_36 : decode cX3_computeRegister 36 = .ok (.iload_n 2, 1) := by decide +kernel
theorem dX3_computeRegister_37 : decode cX3_computeRegister 37 = .ok (.iconst 4, 1) := by decide +kernel
theorem dX3_computeRegister_38 : decode cX3_computeRegister 38 = .ok (.if_icmp .lt 6, 3) := by decide +kernel
theorem dX3_computeRegister_41 : decode cX3_computeRegister 41 = .ok (.bipush (-2), 2) := by decide +kernel
theorem dX3_computeRegister_43 : decode cX3_computeRegister 43 = .ok (.ireturn, 1) := by decide +kernel
theorem dX3_computeRegister_44 : decode cX3_computeRegister 44 = .ok (.aload_n 0, 1) := by decide +kernel
theorem dX3_computeRegister_45 : decode cX3_computeRegister 45 = .ok (.getfield 34, 3) := by decide +kernel
theorem dX3_computeRegister_48 : decode cX3_computeRegister 48 = .ok (.iload_n 1, 1) := by decide +kernel
theorem dX3_computeRegister_49 : decode cX3_computeRegister 49 = .ok (.baload, 1) := by decide +kernel
theorem dX3_computeRegister_50 : decode cX3_computeRegister 50 = .ok (.ifCond .eq 6, 3) := by decide +kernel
theorem dX3_computeRegister_53 : decode cX3_computeRegister 53 = .ok (.bipush (-5), 2) := by decide +kernel
theorem dX3_computeRegister_55 : decode cX3_computeRegister 55 = .ok (.ireturn, 1) := by decide +kernel
theorem dX3_computeRegister_56 : decode cX3_computeRegister 56 = .ok (.iload_n 2, 1) := by decide +kernel
theorem dX3_computeRegister_57 : decode cX3_computeRegister 57 = .ok (.iconst 2, 1) := by decide +kernel
theorem dX3_computeRegister_58 : decode cX3_computeRegister 58 = .ok (.if_icmp .ne 10, 3) := by decide +kernel
theorem dX3_computeRegister_61 : decode cX3_computeRegister 61 = .ok (.iload 4, 2) := by decide +kernel
theorem dX3_computeRegister_63 : decode cX3_computeRegister 63 = .ok (.iload 5, 2) := by decide +kernel
theorem dX3_computeRegister_65 : decode cX3_computeRegister 65 = .ok (.if_icmp .eq 7, 3) := by decide +kernel
theorem dX3_computeRegister_68 : decode cX3_computeRegister 68 = .ok (.iconst 1, 1) := by decide +kernel
theorem dX3_computeRegister_69 : decode cX3_computeRegister 69 = .ok (.goto 4, 3) := by decide +kernel
theorem dX3_computeRegister_72 : decode cX3_computeRegister 72 = .ok (.iconst 0, 1) := by decide +kernel
theorem dX3_computeRegister_73 : decode cX3_computeRegister 73 = .ok (.istore 6, 2) := by decide +kernel
theorem dX3_computeRegister_75 : decode cX3_computeRegister 75 = .ok (.iload 6, 2) := by decide +kernel
theorem dX3_computeRegister_77 : decode cX3_computeRegister 77 = .ok (.ifCond .eq 18, 3) := by decide +kernel
theorem dX3_computeRegister_80 : decode cX3_computeRegister 80 = .ok (.aload_n 0, 1) := by decide +kernel
theorem dX3_computeRegister_81 : decode cX3_computeRegister 81 = .ok (.iload_n 1, 1) := by decide +kernel
theorem dX3_computeRegister_82 : decode cX3_computeRegister 82 = .ok (.iload 4, 2) := by decide +kernel
theorem dX3_computeRegister_84 : decode cX3_computeRegister 84 = .ok (.iload 5, 2) := by decide +kernel
theorem dX3_computeRegister_86 : decode cX3_computeRegister 86 = .ok (.invokevirtual 141, 3) := by decide +kernel
theorem dX3_computeRegister_89 : decode cX3_computeRegister 89 = .ok (.ifCond .ne 6, 3) := by decide +kernel
theorem dX3_computeRegister_92 : decode cX3_computeRegister 92 = .ok (.bipush (-7), 2) := by decide +kernel
theorem dX3_computeRegister_94 : decode cX3_computeRegister 94 = .ok (.ireturn, 1) := by decide +kernel
theorem dX3_computeRegister_95 : decode cX3_computeRegister 95 = .ok (.aload_n 0, 1) := by decide +kernel
theorem dX3_computeRegister_96 : decode cX3_computeRegister 96 = .ok (.getfield 23, 3) := by decide +kernel
theorem dX3_computeRegister_99 : decode cX3_computeRegister 99 = .ok (.getfield 89, 3) := by decide +kernel
theorem dX3_computeRegister_102 : decode cX3_computeRegister 102 = .ok (.iload_n 1, 1) := by decide +kernel
theorem dX3_computeRegister_103 : decode cX3_computeRegister 103 = .ok (.iload 4, 2) := by decide +kernel
theorem dX3_computeRegister_105 : decode cX3_computeRegister 105 = .ok (.invokestatic 120, 3) := by decide +kernel
theorem dX3_computeRegister_108 : decode cX3_computeRegister 108 = .ok (.iaload, 1) := by decide +kernel
theorem dX3_computeRegister_109 : decode cX3_computeRegister 109 = .ok (.istore 7, 2) := by decide +kernel
theorem dX3_computeRegister_111 : decode cX3_computeRegister 111 = .ok (.aload_n 0, 1) := by decide +kernel
theorem dX3_computeRegister_112 : decode cX3_computeRegister 112 = .ok (.getfield 23, 3) := by decide +kernel
theorem dX3_computeRegister_115 : decode cX3_computeRegister 115 = .ok (.getfield 89, 3) := by decide +kernel
theorem dX3_computeRegister_118 : decode cX3_computeRegister 118 = .ok (.iload_n 1, 1) := by decide +kernel
theorem dX3_computeRegister_119 : decode cX3_computeRegister 119 = .ok (.iload 5, 2) := by decide +kernel
theorem dX3_computeRegister_121 : decode cX3_computeRegister 121 = .ok (.invokestatic 120, 3) := by decide +kernel
theorem dX3_computeRegister_124 : decode cX3_computeRegister 124 = .ok (.iaload, 1) := by decide +kernel
theorem dX3_computeRegister_125 : decode cX3_computeRegister 125 = .ok (.istore 8, 2) := by decide +kernel
theorem dX3_computeRegister_127 : decode cX3_computeRegister 127 = .ok (.iload_n 2, 1) := by decide +kernel
theorem dX3_computeRegister_128 : decode cX3_computeRegister 128 = .ok (.iload 7, 2) := by decide +kernel
theorem dX3_computeRegister_130 : decode cX3_computeRegister 130 = .ok (.iload 8, 2) := by decide +kernel
theorem dX3_computeRegister_132 : decode cX3_computeRegister 132 = .ok (.invokestatic 145, 3) := by decide +kernel
theorem dX3_computeRegister_135 : decode cX3_computeRegister 135 = .ok (.istore 9, 2) := by decide +kernel
theorem dX3_computeRegister_137 : decode cX3_computeRegister 137 = .ok (.aload_n 0, 1) := by decide +kernel
theorem dX3_computeRegister_138 : decode cX3_computeRegister 138 = .ok (.getfield 23, 3) := by decide +kernel
theorem dX3_computeRegister_141 : decode cX3_computeRegister 141 = .ok (.iload_n 1, 1) := by decide +kernel
theorem dX3_computeRegister_142 : decode cX3_computeRegister 142 = .ok (.iload_n 3, 1) := by decide +kernel
theorem dX3_computeRegister_143 : decode cX3_computeRegister 143 = .ok (.invokestatic 120, 3) := by decide +kernel
theorem dX3_computeRegister_146 : decode cX3_computeRegister 146 = .ok (.iload 9, 2) := by decide +kernel
theorem dX3_computeRegister_148 : decode cX3_computeRegister 148 = .ok (.invokevirtual 103, 3) := by decide +kernel
theorem dX3_computeRegister_151 : decode cX3_computeRegister 151 = .ok (.iload 9, 2) := by decide +kernel
theorem dX3_computeRegister_153 : decode cX3_computeRegister 153 = .ok (.ireturn, 1) := by decide +kernel
set_option maxRecDepth 20000 in
theorem ggX3_loadAddressed_X5_isTask : GoodIn wsX3_loadAddressed wsX5_isTask := goodIn_r _ [5] (by decide +kernel) (by decide +kernel)
set_option maxRecDepth 20000 in
theorem gX3_loadAddressed_X5_isTask_n117 : GoodIn wsX3_loadAddressed (wsX5_isTask) := ggX3_loadAddressed_X5_isTask
set_option maxRecDepth 20000 in
theorem ggX3_loadAddressed_X5_isRegister : GoodIn wsX3_loadAddressed wsX5_isRegister := goodIn_r _ [7] (by decide +kernel) (by decide +kernel)
set_option maxRecDepth 20000 in
theorem gX3_loadAddressed_X5_isRegister_n123 : GoodIn wsX3_loadAddressed (wsX5_isRegister) := ggX3_loadAddressed_X5_isRegister
set_option maxRecDepth 20000 in
theorem ggX3_loadAddressed_X3_mayUse : GoodIn wsX3_loadAddressed wsX3_mayUse := goodIn_r _ [12, 2, 13, 14, 1, 15, 4, 16, 17, 18, 19, 20, 21, 22, 23, 24, 25, 26, 27, 28, 29, 30, 31, 32, 33, 34, 35, 36, 37, 38, 39, 40, 41, 11, 42, 43, 44, 45, 46, 47, 48, 49, 50, 51, 52, 87, 88, 89, 90, 91, 92, 93, 94, 95, 96, 97, 98, 99, 100, 101, 102] (by decide +kernel) (by decide +kernel)
set_option maxRecDepth 20000 in
theorem gX3_loadAddressed_X3_mayUse : GoodIn wsX3_loadAddressed (wsV RX3 141 RX3 yX3_mayUse wsX3_mayUse) := goodIn_app (goodIn_of _ (by decide +kernel)) ggX3_loadAddressed_X3_mayUse
set_option maxRecDepth 20000 in
theorem ggX3_loadAddressed_X5_cellOf : GoodIn wsX3_loadAddressed wsX5_cellOf := goodIn_r _ [16] (by decide +kernel) (by decide +kernel)
set_option maxRecDepth 20000 in
theorem gX3_loadAddressed_X5_cellOf_n120 : GoodIn wsX3_loadAddressed (wsX5_cellOf) := ggX3_loadAddressed_X5_cellOf
set_option maxRecDepth 20000 in
theorem ggX3_loadAddressed_J9_floorMod_7cf53 : GoodIn wsX3_loadAddressed wsJ9_floorMod_7cf53 := goodIn_r _ [56] (by decide +kernel) (by decide +kernel)
set_option maxRecDepth 20000 in
theorem gX3_loadAddressed_J9_floorMod_7cf53 : GoodIn wsX3_loadAddressed (va_wsS RX3 149 yJ9_floorMod_7cf53 wsJ9_floorMod_7cf53) := goodIn_app (goodIn_of _ (by decide +kernel)) ggX3_loadAddressed_J9_floorMod_7cf53
set_option maxRecDepth 20000 in
theorem ggX3_loadAddressed_X3_takeWord : GoodIn wsX3_loadAddressed wsX3_takeWord := goodIn_r _ [60, 2, 61, 62, 63, 64, 11, 65, 66, 67, 68, 69, 70, 71, 17, 18, 19, 20, 21, 22, 72, 73, 74, 75, 76, 77, 78, 79, 80, 47, 52, 48, 49, 50, 51, 81, 82, 83, 84, 85, 35, 36, 37, 86, 87, 88, 89, 90, 91, 92, 93, 94, 95, 96, 97, 98, 99] (by decide +kernel) (by decide +kernel)
set_option maxRecDepth 20000 in
theorem gX3_loadAddressed_X3_takeWord : GoodIn wsX3_loadAddressed (wsV RX3 126 RX3 yX3_takeWord wsX3_takeWord) := goodIn_app (goodIn_of _ (by decide +kernel)) ggX3_loadAddressed_X3_takeWord
theorem dX3_loadAddressed_0 : decode cX3_loadAddressed 0 = .ok (.iload_n 1, 1) := by decide +kernel
theorem dX3_loadAddressed_1 : decode cX3_loadAddressed 1 = .ok (.invokestatic 117, 3) := by decide +kernel
theorem dX3_loadAddressed_4 : decode cX3_loadAddressed 4 = .ok (.ifCond .eq 17, 3) := by decide +kernel
theorem dX3_loadAddressed_7 : decode cX3_loadAddressed 7 = .ok (.iload_n 2, 1) := by decide +kernel
theorem dX3_loadAddressed_8 : decode cX3_loadAddressed 8 = .ok (.invokestatic 123, 3) := by decide +kernel
theorem dX3_loadAddressed_11 : decode cX3_loadAddressed 11 = .ok (.ifCond .eq 10, 3) := by decide +kernel
theorem dX3_loadAddressed_14 : decode cX3_loadAddressed 14 = .ok (.iload_n 3, 1) := by decide +kernel
theorem dX3_loadAddressed_15 : decode cX3_loadAddressed 15 = .ok (.invokestatic 123, 3) := by decide +kernel
theorem dX3_loadAddressed_18 : decode cX3_loadAddressed 18 = .ok (.ifCond .ne 5, 3) := by decide +kernel
theorem dX3_loadAddressed_21 : decode cX3_loadAddressed 21 = .ok (.iconst (-1), 1) := by decide +kernel
theorem dX3_loadAddressed_22 : decode cX3_loadAddressed 22 = .ok (.ireturn, 1) := by decide +kernel
theorem dX3_loadAddressed_23 : decode cX3_loadAddressed 23 = .ok (.aload_n 0, 1) := by decide +kernel
theorem dX3_loadAddressed_24 : decode cX3_loadAddressed 24 = .ok (.getfield 34, 3) := by decide +kernel
theorem dX3_loadAddressed_27 : decode cX3_loadAddressed 27 = .ok (.iload_n 1, 1) := by decide +kernel
theorem dX3_loadAddressed_28 : decode cX3_loadAddressed 28 = .ok (.baload, 1) := by decide +kernel
theorem dX3_loadAddressed_29 : decode cX3_loadAddressed 29 = .ok (.ifCond .eq 6, 3) := by decide +kernel
theorem dX3_loadAddressed_32 : decode cX3_loadAddressed 32 = .ok (.bipush (-5), 2) := by decide +kernel
theorem dX3_loadAddressed_34 : decode cX3_loadAddressed 34 = .ok (.ireturn, 1) := by decide +kernel
theorem dX3_loadAddressed_35 : decode cX3_loadAddressed 35 = .ok (.aload_n 0, 1) := by decide +kernel
theorem dX3_loadAddressed_36 : decode cX3_loadAddressed 36 = .ok (.iload_n 1, 1) := by decide +kernel
theorem dX3_loadAddressed_37 : decode cX3_loadAddressed 37 = .ok (.iload_n 3, 1) := by decide +kernel
theorem dX3_loadAddressed_38 : decode cX3_loadAddressed 38 = .ok (.iload_n 3, 1) := by decide +kernel
theorem dX3_loadAddressed_39 : decode cX3_loadAddressed 39 = .ok (.invokevirtual 141, 3) := by decide +kernel
theorem dX3_loadAddressed_42 : decode cX3_loadAddressed 42 = .ok (.ifCond .ne 6, 3) := by decide +kernel
theorem dX3_loadAddressed_45 : decode cX3_loadAddressed 45 = .ok (.bipush (-7), 2) := by decide +kernel
theorem dX3_loadAddressed_47 : decode cX3_loadAddressed 47 = .ok (.ireturn, 1) := by decide +kernel
theorem dX3_loadAddressed_48 : decode cX3_loadAddressed 48 = .ok (.aload_n 0, 1) := by decide +kernel
theorem dX3_loadAddressed_49 : decode cX3_loadAddressed 49 = .ok (.getfield 23, 3) := by decide +kernel
theorem dX3_loadAddressed_52 : decode cX3_loadAddressed 52 = .ok (.getfield 89, 3) := by decide +kernel
theorem dX3_loadAddressed_55 : decode cX3_loadAddressed 55 = .ok (.iload_n 1, 1) := by decide +kernel
theorem dX3_loadAddressed_56 : decode cX3_loadAddressed 56 = .ok (.iload_n 3, 1) := by decide +kernel
theorem dX3_loadAddressed_57 : decode cX3_loadAddressed 57 = .ok (.invokestatic 120, 3) := by decide +kernel
theorem dX3_loadAddressed_60 : decode cX3_loadAddressed 60 = .ok (.iaload, 1) := by decide +kernel
theorem dX3_loadAddressed_61 : decode cX3_loadAddressed 61 = .ok (.bipush 32, 2) := by decide +kernel
theorem dX3_loadAddressed_63 : decode cX3_loadAddressed 63 = .ok (.invokestatic 149, 3) := by decide +kernel
theorem dX3_loadAddressed_66 : decode cX3_loadAddressed 66 = .ok (.istore 4, 2) := by decide +kernel
theorem dX3_loadAddressed_68 : decode cX3_loadAddressed 68 = .ok (.aload_n 0, 1) := by decide +kernel
theorem dX3_loadAddressed_69 : decode cX3_loadAddressed 69 = .ok (.iload_n 1, 1) := by decide +kernel
theorem dX3_loadAddressed_70 : decode cX3_loadAddressed 70 = .ok (.iload_n 2, 1) := by decide +kernel
theorem dX3_loadAddressed_71 : decode cX3_loadAddressed 71 = .ok (.invokestatic 120, 3) := by decide +kernel
theorem dX3_loadAddressed_74 : decode cX3_loadAddressed 74 = .ok (.iload 4, 2) := by decide +kernel
theorem dX3_loadAddressed_76 : decode cX3_loadAddressed 76 = .ok (.invokevirtual 126, 3) := by decide +kernel
theorem dX3_loadAddressed_79 : decode cX3_loadAddressed 79 = .ok (.ireturn, 1) := by decide +kernel
set_option maxRecDepth 20000 in
theorem ggX3_outputRegister_X5_isTask : GoodIn wsX3_outputRegister wsX5_isTask := goodIn_r _ [5] (by decide +kernel) (by decide +kernel)
set_option maxRecDepth 20000 in
theorem gX3_outputRegister_X5_isTask_n117 : GoodIn wsX3_outputRegister (wsX5_isTask) := ggX3_outputRegister_X5_isTask
set_option maxRecDepth 20000 in
theorem ggX3_outputRegister_X5_isRegister : GoodIn wsX3_outputRegister wsX5_isRegister := goodIn_r _ [7] (by decide +kernel) (by decide +kernel)
set_option maxRecDepth 20000 in
theorem gX3_outputRegister_X5_isRegister_n123 : GoodIn wsX3_outputRegister (wsX5_isRegister) := ggX3_outputRegister_X5_isRegister
set_option maxRecDepth 20000 in
theorem ggX3_outputRegister_X3_mayUse : GoodIn wsX3_outputRegister wsX3_mayUse := goodIn_r _ [12, 2, 13, 14, 1, 15, 4, 16, 17, 18, 19, 20, 21, 22, 23, 24, 25, 26, 27, 28, 29, 30, 31, 32, 33, 34, 35, 36, 37, 38, 39, 40, 41, 11, 42, 43, 44, 45, 46, 47, 48, 49, 50, 51, 52, 53, 54, 55, 56, 57, 58, 59, 60, 61, 62, 63, 64, 65, 66, 67, 68] (by decide +kernel) (by decide +kernel)
set_option maxRecDepth 20000 in
theorem gX3_outputRegister_X3_mayUse : GoodIn wsX3_outputRegister (wsV RX3 141 RX3 yX3_mayUse wsX3_mayUse) := goodIn_app (goodIn_of _ (by decide +kernel)) ggX3_outputRegister_X3_mayUse
set_option maxRecDepth 20000 in
theorem ggX3_outputRegister_X5_cellOf : GoodIn wsX3_outputRegister wsX5_cellOf := goodIn_r _ [16] (by decide +kernel) (by decide +kernel)
set_option maxRecDepth 20000 in
theorem gX3_outputRegister_X5_cellOf_n120 : GoodIn wsX3_outputRegister (wsX5_cellOf) := ggX3_outputRegister_X5_cellOf
theorem dX3_outputRegister_0 : decode cX3_outputRegister 0 = .ok (.iload_n 1, 1) := by decide +kernel
theorem dX3_outputRegister_1 : decode cX3_outputRegister 1 = .ok (.invokestatic 117, 3) := by decide +kernel
theorem dX3_outputRegister_4 : decode cX3_outputRegister 4 = .ok (.ifCond .eq 10, 3) := by decide +kernel
theorem dX3_outputRegister_7 : decode cX3_outputRegister 7 = .ok (.iload_n 2, 1) := by decide +kernel
theorem dX3_outputRegister_8 : decode cX3_outputRegister 8 = .ok (.invokestatic 123, 3) := by decide +kernel
theorem dX3_outputRegister_11 : decode cX3_outputRegister 11 = .ok (.ifCond .ne 5, 3) := by decide +kernel
theorem dX3_outputRegister_14 : decode cX3_outputRegister 14 = .ok (.iconst (-1), 1) := by decide +kernel
theorem dX3_outputRegister_15 : decode cX3_outputRegister 15 = .ok (.ireturn, 1) := by decide +kernel
theorem dX3_outputRegister_16 : decode cX3_outputRegister 16 = .ok (.aload_n 0, 1) := by decide +kernel
theorem dX3_outputRegister_17 : decode cX3_outputRegister 17 = .ok (.getfield 34, 3) := by decide +kernel
theorem dX3_outputRegister_20 : decode cX3_outputRegister 20 = .ok (.iload_n 1, 1) := by decide +kernel
theorem dX3_outputRegister_21 : decode cX3_outputRegister 21 = .ok (.baload, 1) := by decide +kernel
theorem dX3_outputRegister_22 : decode cX3_outputRegister 22 = .ok (.ifCond .eq 6, 3) := by decide +kernel
theorem dX3_outputRegister_25 : decode cX3_outputRegister 25 = .ok (.bipush (-5), 2) := by decide +kernel
theorem dX3_outputRegister_27 : decode cX3_outputRegister 27 = .ok (.ireturn, 1) := by decide +kernel
theorem dX3_outputRegister_28 : decode cX3_outputRegister 28 = .ok (.aload_n 0, 1) := by decide +kernel
theorem dX3_outputRegister_29 : decode cX3_outputRegister 29 = .ok (.iload_n 1, 1) := by decide +kernel
theorem dX3_outputRegister_30 : decode cX3_outputRegister 30 = .ok (.iload_n 2, 1) := by decide +kernel
theorem dX3_outputRegister_31 : decode cX3_outputRegister 31 = .ok (.iload_n 2, 1) := by decide +kernel
theorem dX3_outputRegister_32 : decode cX3_outputRegister 32 = .ok (.invokevirtual 141, 3) := by decide +kernel
theorem dX3_outputRegister_35 : decode cX3_outputRegister 35 = .ok (.ifCond .ne 6, 3) := by decide +kernel
theorem dX3_outputRegister_38 : decode cX3_outputRegister 38 = .ok (.bipush (-7), 2) := by decide +kernel
theorem dX3_outputRegister_40 : decode cX3_outputRegister 40 = .ok (.ireturn, 1) := by decide +kernel
theorem dX3_outputRegister_41 : decode cX3_outputRegister 41 = .ok (.aload_n 0, 1) := by decide +kernel
theorem dX3_outputRegister_42 : decode cX3_outputRegister 42 = .ok (.getfield 23, 3) := by decide +kernel
theorem dX3_outputRegister_45 : decode cX3_outputRegister 45 = .ok (.getfield 89, 3) := by decide +kernel
theorem dX3_outputRegister_48 : decode cX3_outputRegister 48 = .ok (.iload_n 1, 1) := by decide +kernel
theorem dX3_outputRegister_49 : decode cX3_outputRegister 49 = .ok (.iload_n 2, 1) := by decide +kernel
theorem dX3_outputRegister_50 : decode cX3_outputRegister 50 = .ok (.invokestatic 120, 3) := by decide +kernel
theorem dX3_outputRegister_53 : decode cX3_outputRegister 53 = .ok (.iaload, 1) := by decide +kernel
theorem dX3_outputRegister_54 : decode cX3_outputRegister 54 = .ok (.ireturn, 1) := by decide +kernel
set_option maxRecDepth 20000 in
theorem ggX3_takeWord_X3_fetch : GoodIn wsX3_takeWord wsX3_fetch := goodIn_r _ [7, 2, 8, 9, 10, 11, 12, 6, 13, 14, 15, 16, 17, 18, 19, 20, 21, 22, 23, 24, 25, 26, 27, 28, 29, 30, 31, 32, 33, 34, 44, 45, 46, 47, 48, 49, 50, 51, 52, 53, 54, 55, 56] (by decide +kernel) (by decide +kernel)
set_option maxRecDepth 20000 in
theorem gX3_takeWord_X3_fetch : GoodIn wsX3_takeWord (wsV RX3 82 RX3 yX3_fetch wsX3_fetch) := goodIn_app (goodIn_of _ (by decide +kernel)) ggX3_takeWord_X3_fetch
set_option maxRecDepth 20000 in
theorem ggX3_takeWord_X0_copyMark : GoodIn wsX3_takeWord wsX0_copyMark := goodIn_r _ [38, 19, 30, 39, 40, 41, 42, 43, 15, 16, 17, 18, 31, 32, 33, 34, 54, 55, 56] (by decide +kernel) (by decide +kernel)
set_option maxRecDepth 20000 in
theorem gX3_takeWord_X0_copyMark : GoodIn wsX3_takeWord (wsV RX3 138 RX0 yX0_copyMark wsX0_copyMark) := goodIn_app (goodIn_of _ (by decide +kernel)) ggX3_takeWord_X0_copyMark
theorem dX3_takeWord_0 : decode cX3_takeWord 0 = .ok (.aload_n 0, 1) := by decide +kernel
theorem dX3_takeWord_1 : decode cX3_takeWord 1 = .ok (.iload_n 2, 1) := by decide +kernel
theorem dX3_takeWord_2 : decode cX3_takeWord 2 = .ok (.invokevirtual 82, 3) := by decide +kernel
theorem dX3_takeWord_5 : decode cX3_takeWord 5 = .ok (.aload_n 0, 1) := by decide +kernel
theorem dX3_takeWord_6 : decode cX3_takeWord 6 = .ok (.getfield 23, 3) := by decide +kernel
theorem dX3_takeWord_9 : decode cX3_takeWord 9 = .ok (.getfield 89, 3) := by decide +kernel
theorem dX3_takeWord_12 : decode cX3_takeWord 12 = .ok (.iload_n 1, 1) := by decide +kernel
theorem dX3_takeWord_13 : decode cX3_takeWord 13 = .ok (.aload_n 0, 1) := by decide +kernel
theorem dX3_takeWord_14 : decode cX3_takeWord 14 = .ok (.getfield 14, 3) := by decide +kernel
theorem dX3_takeWord_17 : decode cX3_takeWord 17 = .ok (.getfield 89, 3) := by decide +kernel
theorem dX3_takeWord_20 : decode cX3_takeWord 20 = .ok (.iload_n 2, 1) := by decide +kernel
theorem dX3_takeWord_21 : decode cX3_takeWord 21 = .ok (.iaload, 1) := by decide +kernel
theorem dX3_takeWord_22 : decode cX3_takeWord 22 = .ok (.iastore, 1) := by decide +kernel
theorem dX3_takeWord_23 : decode cX3_takeWord 23 = .ok (.aload_n 0, 1) := by decide +kernel
theorem dX3_takeWord_24 : decode cX3_takeWord 24 = .ok (.getfield 23, 3) := by decide +kernel
theorem dX3_takeWord_27 : decode cX3_takeWord 27 = .ok (.iload_n 1, 1) := by decide +kernel
theorem dX3_takeWord_28 : decode cX3_takeWord 28 = .ok (.aload_n 0, 1) := by decide +kernel
theorem dX3_takeWord_29 : decode cX3_takeWord 29 = .ok (.getfield 14, 3) := by decide +kernel
theorem dX3_takeWord_32 : decode cX3_takeWord 32 = .ok (.iload_n 2, 1) := by decide +kernel
theorem dX3_takeWord_33 : decode cX3_takeWord 33 = .ok (.invokevirtual 138, 3) := by decide +kernel
theorem dX3_takeWord_36 : decode cX3_takeWord 36 = .ok (.aload_n 0, 1) := by decide +kernel
theorem dX3_takeWord_37 : decode cX3_takeWord 37 = .ok (.getfield 23, 3) := by decide +kernel
theorem dX3_takeWord_40 : decode cX3_takeWord 40 = .ok (.getfield 89, 3) := by decide +kernel
theorem dX3_takeWord_43 : decode cX3_takeWord 43 = .ok (.iload_n 1, 1) := by decide +kernel
theorem dX3_takeWord_44 : decode cX3_takeWord 44 = .ok (.iaload, 1) := by decide +kernel
theorem dX3_takeWord_45 : decode cX3_takeWord 45 = .ok (.ireturn, 1) := by decide +kernel
set_option maxRecDepth 20000 in
theorem ggX3_putMarked_X0_copyMark : GoodIn wsX3_putMarked wsX0_copyMark := goodIn_r _ [6, 7, 8, 9, 10, 11, 12, 13, 14, 15, 5, 16, 17, 18, 19, 20, 47, 48, 49] (by decide +kernel) (by decide +kernel)
set_option maxRecDepth 20000 in
theorem gX3_putMarked_X0_copyMark : GoodIn wsX3_putMarked (wsV RX3 138 RX0 yX0_copyMark wsX0_copyMark) := goodIn_app (goodIn_of _ (by decide +kernel)) ggX3_putMarked_X0_copyMark
set_option maxRecDepth 20000 in
theorem ggX3_putMarked_X3_updateSecond : GoodIn wsX3_putMarked wsX3_updateSecond := goodIn_r _ [25, 26, 1, 27, 28, 29, 24, 30, 31, 32, 33, 34, 5, 35, 36, 7, 8, 17, 18, 19, 20, 37, 38, 39, 40, 41, 42, 43, 44, 45, 46, 47, 48, 49] (by decide +kernel) (by decide +kernel)
set_option maxRecDepth 20000 in
theorem gX3_putMarked_X3_updateSecond : GoodIn wsX3_putMarked (wsV RX3 107 RX3 yX3_updateSecond wsX3_updateSecond) := goodIn_app (goodIn_of _ (by decide +kernel)) ggX3_putMarked_X3_updateSecond
theorem dX3_putMarked_0 : decode cX3_putMarked 0 = .ok (.aload_n 0, 1) := by decide +kernel
theorem dX3_putMarked_1 : decode cX3_putMarked 1 = .ok (.getfield 14, 3) := by decide +kernel
theorem dX3_putMarked_4 : decode cX3_putMarked 4 = .ok (.getfield 89, 3) := by decide +kernel
theorem dX3_putMarked_7 : decode cX3_putMarked 7 = .ok (.iload_n 1, 1) := by decide +kernel
theorem dX3_putMarked_8 : decode cX3_putMarked 8 = .ok (.iload_n 2, 1) := by decide +kernel
theorem dX3_putMarked_9 : decode cX3_putMarked 9 = .ok (.iastore, 1) := by decide +kernel
theorem dX3_putMarked_10 : decode cX3_putMarked 10 = .ok (.aload_n 0, 1) := by decide +kernel
theorem dX3_putMarked_11 : decode cX3_putMarked 11 = .ok (.getfield 14, 3) := by decide +kernel
theorem dX3_putMarked_14 : decode cX3_putMarked 14 = .ok (.iload_n 1, 1) := by decide +kernel
theorem dX3_putMarked_15 : decode cX3_putMarked 15 = .ok (.aload_n 3, 1) := by decide +kernel
theorem dX3_putMarked_16 : decode cX3_putMarked 16 = .ok (.iload 4, 2) := by decide +kernel
theorem dX3_putMarked_18 : decode cX3_putMarked 18 = .ok (.invokevirtual 138, 3) := by decide +kernel
theorem dX3_putMarked_21 : decode cX3_putMarked 21 = .ok (.aload_n 0, 1) := by decide +kernel
theorem dX3_putMarked_22 : decode cX3_putMarked 22 = .ok (.iload_n 1, 1) := by decide +kernel
theorem dX3_putMarked_23 : decode cX3_putMarked 23 = .ok (.invokevirtual 107, 3) := by decide +kernel
theorem dX3_putMarked_26 : decode cX3_putMarked 26 = .ok (.return_, 1) := by decide +kernel
set_option maxRecDepth 20000 in
theorem ggX3_fetch_X3_canHeal : GoodIn wsX3_fetch wsX3_canHeal := goodIn_r _ [8, 1, 2, 9, 10, 11, 12, 13, 14, 15, 16, 17, 7, 18, 19, 30, 31, 32, 33, 34, 35, 36, 37, 38, 39, 40, 41, 42] (by decide +kernel) (by decide +kernel)
set_option maxRecDepth 20000 in
theorem gX3_fetch_X3_canHeal : GoodIn wsX3_fetch (wsV RX3 154 RX3 yX3_canHeal wsX3_canHeal) := goodIn_app (goodIn_of _ (by decide +kernel)) ggX3_fetch_X3_canHeal
set_option maxRecDepth 20000 in
theorem ggX3_fetch_X0_setEqual : GoodIn wsX3_fetch wsX0_setEqual := goodIn_r _ [23, 24, 14, 25, 26, 27, 28, 12, 29, 40, 41, 42] (by decide +kernel) (by decide +kernel)
set_option maxRecDepth 20000 in
theorem gX3_fetch_X0_setEqual : GoodIn wsX3_fetch (wsV RX3 85 RX0 yX0_setEqual wsX0_setEqual) := goodIn_app (goodIn_of _ (by decide +kernel)) ggX3_fetch_X0_setEqual
theorem dX3_fetch_0 : decode cX3_fetch 0 = .ok (.aload_n 0, 1) := by decide +kernel
theorem dX3_fetch_1 : decode cX3_fetch 1 = .ok (.iload_n 1, 1) := by decide +kernel
theorem dX3_fetch_2 : decode cX3_fetch 2 = .ok (.invokevirtual 154, 3) := by decide +kernel
theorem dX3_fetch_5 : decode cX3_fetch 5 = .ok (.ifCond .eq 26, 3) := by decide +kernel
theorem dX3_fetch_8 : decode cX3_fetch 8 = .ok (.aload_n 0, 1) := by decide +kernel
theorem dX3_fetch_9 : decode cX3_fetch 9 = .ok (.getfield 14, 3) := by decide +kernel
theorem dX3_fetch_12 : decode cX3_fetch 12 = .ok (.iload_n 1, 1) := by decide +kernel
theorem dX3_fetch_13 : decode cX3_fetch 13 = .ok (.aload_n 0, 1) := by decide +kernel
theorem dX3_fetch_14 : decode cX3_fetch 14 = .ok (.getfield 20, 3) := by decide +kernel
theorem dX3_fetch_17 : decode cX3_fetch 17 = .ok (.iload_n 1, 1) := by decide +kernel
theorem dX3_fetch_18 : decode cX3_fetch 18 = .ok (.invokevirtual 85, 3) := by decide +kernel
theorem dX3_fetch_21 : decode cX3_fetch 21 = .ok (.aload_n 0, 1) := by decide +kernel
theorem dX3_fetch_22 : decode cX3_fetch 22 = .ok (.dup, 1) := by decide +kernel
theorem dX3_fetch_23 : decode cX3_fetch 23 = .ok (.getfield 68, 3) := by decide +kernel
theorem dX3_fetch_26 : decode cX3_fetch 26 = .ok (.iconst 1, 1) := by decide +kernel
theorem dX3_fetch_27 : decode cX3_fetch 27 = .ok (.iadd, 1) := by decide +kernel
theorem dX3_fetch_28 : decode cX3_fetch 28 = .ok (.putfield 68, 3) := by decide +kernel
theorem dX3_fetch_31 : decode cX3_fetch 31 = .ok (.return_, 1) := by decide +kernel
set_option maxRecDepth 20000 in
theorem ggX3_updateSecond_X3_hasSecond : GoodIn wsX3_updateSecond wsX3_hasSecond := goodIn_r _ [7, 8, 21, 22, 23, 24, 25, 26, 27, 28, 29, 30] (by decide +kernel) (by decide +kernel)
set_option maxRecDepth 20000 in
theorem gX3_updateSecond_X3_hasSecond : GoodIn wsX3_updateSecond (wsV RX3 157 RX3 yX3_hasSecond wsX3_hasSecond) := goodIn_app (goodIn_of _ (by decide +kernel)) ggX3_updateSecond_X3_hasSecond
set_option maxRecDepth 20000 in
theorem ggX3_updateSecond_X0_setEqual : GoodIn wsX3_updateSecond wsX0_setEqual := goodIn_r _ [13, 14, 15, 16, 17, 18, 19, 12, 20, 31, 32, 33] (by decide +kernel) (by decide +kernel)
set_option maxRecDepth 20000 in
theorem gX3_updateSecond_X0_setEqual : GoodIn wsX3_updateSecond (wsV RX3 85 RX0 yX0_setEqual wsX0_setEqual) := goodIn_app (goodIn_of _ (by decide +kernel)) ggX3_updateSecond_X0_setEqual
theorem dX3_updateSecond_0 : decode cX3_updateSecond 0 = .ok (.aload_n 0, 1) := by decide +kernel
theorem dX3_updateSecond_1 : decode cX3_updateSecond 1 = .ok (.iload_n 1, 1) := by decide +kernel
theorem dX3_updateSecond_2 : decode cX3_updateSecond 2 = .ok (.invokevirtual 157, 3) := by decide +kernel
theorem dX3_updateSecond_5 : decode cX3_updateSecond 5 = .ok (.ifCond .eq 16, 3) := by decide +kernel
theorem dX3_updateSecond_8 : decode cX3_updateSecond 8 = .ok (.aload_n 0, 1) := by decide +kernel
theorem dX3_updateSecond_9 : decode cX3_updateSecond 9 = .ok (.getfield 20, 3) := by decide +kernel
theorem dX3_updateSecond_12 : decode cX3_updateSecond 12 = .ok (.iload_n 1, 1) := by decide +kernel
theorem dX3_updateSecond_13 : decode cX3_updateSecond 13 = .ok (.aload_n 0, 1) := by decide +kernel
theorem dX3_updateSecond_14 : decode cX3_updateSecond 14 = .ok (.getfield 14, 3) := by decide +kernel
theorem dX3_updateSecond_17 : decode cX3_updateSecond 17 = .ok (.iload_n 1, 1) := by decide +kernel
theorem dX3_updateSecond_18 : decode cX3_updateSecond 18 = .ok (.invokevirtual 85, 3) := by decide +kernel
theorem dX3_updateSecond_21 : decode cX3_updateSecond 21 = .ok (.return_, 1) := by decide +kernel
theorem dX3_hasSecond_0 : decode cX3_hasSecond 0 = .ok (.aload_n 0, 1) := by decide +kernel
theorem dX3_hasSecond_1 : decode cX3_hasSecond 1 = .ok (.getfield 26, 3) := by decide +kernel
theorem dX3_hasSecond_4 : decode cX3_hasSecond 4 = .ok (.iload_n 1, 1) := by decide +kernel
theorem dX3_hasSecond_5 : decode cX3_hasSecond 5 = .ok (.iconst 4, 1) := by decide +kernel
theorem dX3_hasSecond_6 : decode cX3_hasSecond 6 = .ok (.idiv, 1) := by decide +kernel
theorem dX3_hasSecond_7 : decode cX3_hasSecond 7 = .ok (.baload, 1) := by decide +kernel
theorem dX3_hasSecond_8 : decode cX3_hasSecond 8 = .ok (.ireturn, 1) := by decide +kernel
set_option maxRecDepth 20000 in
theorem ggX3_canHeal_X0_isPoisoned : GoodIn wsX3_canHeal wsX0_isPoisoned := goodIn_r _ [7, 8, 25, 26, 27] (by decide +kernel) (by decide +kernel)
set_option maxRecDepth 20000 in
theorem gX3_canHeal_X0_isPoisoned : GoodIn wsX3_canHeal (wsV RX3 135 RX0 yX0_isPoisoned wsX0_isPoisoned) := goodIn_app (goodIn_of _ (by decide +kernel)) ggX3_canHeal_X0_isPoisoned
set_option maxRecDepth 20000 in
theorem ggX3_canHeal_X3_hasSecond : GoodIn wsX3_canHeal wsX3_hasSecond := goodIn_r _ [13, 14, 15, 16, 17, 18, 19, 20, 21, 22, 23, 24] (by decide +kernel) (by decide +kernel)
set_option maxRecDepth 20000 in
theorem gX3_canHeal_X3_hasSecond : GoodIn wsX3_canHeal (wsV RX3 157 RX3 yX3_hasSecond wsX3_hasSecond) := goodIn_app (goodIn_of _ (by decide +kernel)) ggX3_canHeal_X3_hasSecond
theorem dX3_canHeal_0 : decode cX3_canHeal 0 = .ok (.aload_n 0, 1) := by decide +kernel
theorem dX3_canHeal_1 : decode cX3_canHeal 1 = .ok (.getfield 14, 3) := by decide +kernel
theorem dX3_canHeal_4 : decode cX3_canHeal 4 = .ok (.iload_n 1, 1) := by decide +kernel
theorem dX3_canHeal_5 : decode cX3_canHeal 5 = .ok (.invokevirtual 135, 3) := by decide +kernel
theorem dX3_canHeal_8 : decode cX3_canHeal 8 = .ok (.ifCond .eq 26, 3) := by decide +kernel
theorem dX3_canHeal_11 : decode cX3_canHeal 11 = .ok (.aload_n 0, 1) := by decide +kernel
theorem dX3_canHeal_12 : decode cX3_canHeal 12 = .ok (.iload_n 1, 1) := by decide +kernel
theorem dX3_canHeal_13 : decode cX3_canHeal 13 = .ok (.invokevirtual 157, 3) := by decide +kernel
theorem dX3_canHeal_16 : decode cX3_canHeal 16 = .ok (.ifCond .eq 18, 3) := by decide +kernel
theorem dX3_canHeal_19 : decode cX3_canHeal 19 = .ok (.aload_n 0, 1) := by decide +kernel
theorem dX3_canHeal_20 : decode cX3_canHeal 20 = .ok (.getfield 20, 3) := by decide +kernel
theorem dX3_canHeal_23 : decode cX3_canHeal 23 = .ok (.iload_n 1, 1) := by decide +kernel
theorem dX3_canHeal_24 : decode cX3_canHeal 24 = .ok (.invokevirtual 135, 3) := by decide +kernel
theorem dX3_canHeal_27 : decode cX3_canHeal 27 = .ok (.ifCond .ne 7, 3) := by decide +kernel
theorem dX3_canHeal_30 : decode cX3_canHeal 30 = .ok (.iconst 1, 1) := by decide +kernel
theorem dX3_canHeal_31 : decode cX3_canHeal 31 = .ok (.goto 4, 3) := by decide +kernel
theorem dX3_canHeal_34 : decode cX3_canHeal 34 = .ok (.iconst 0, 1) := by decide +kernel
theorem dX3_canHeal_35 : decode cX3_canHeal 35 = .ok (.ireturn, 1) := by decide +kernel
set_option maxRecDepth 20000 in
theorem ggX3_mayUse_X5_cellOf : GoodIn wsX3_mayUse wsX5_cellOf := goodIn_r _ [7] (by decide +kernel) (by decide +kernel)
set_option maxRecDepth 20000 in
theorem gX3_mayUse_X5_cellOf_n120 : GoodIn wsX3_mayUse (wsX5_cellOf) := ggX3_mayUse_X5_cellOf
set_option maxRecDepth 20000 in
theorem ggX3_mayUse_X0_isPoisoned : GoodIn wsX3_mayUse wsX0_isPoisoned := goodIn_r _ [12, 13, 55, 56, 57] (by decide +kernel) (by decide +kernel)
set_option maxRecDepth 20000 in
theorem gX3_mayUse_X0_isPoisoned : GoodIn wsX3_mayUse (wsV RX3 135 RX0 yX0_isPoisoned wsX0_isPoisoned) := goodIn_app (goodIn_of _ (by decide +kernel)) ggX3_mayUse_X0_isPoisoned
set_option maxRecDepth 20000 in
theorem ggX3_mayUse_X1_add : GoodIn wsX3_mayUse wsX1_add := goodIn_r _ [18, 19, 20, 21, 22, 23, 24, 25, 26, 27, 28, 29, 58, 59, 60] (by decide +kernel) (by decide +kernel)
set_option maxRecDepth 20000 in
theorem gX3_mayUse_X1_add : GoodIn wsX3_mayUse (wsV RX3 163 RX1 yX1_add wsX1_add) := goodIn_app (goodIn_of _ (by decide +kernel)) ggX3_mayUse_X1_add
set_option maxRecDepth 20000 in
theorem ggX3_mayUse_X3_clearPoisoned : GoodIn wsX3_mayUse wsX3_clearPoisoned := goodIn_r _ [34, 1, 8, 9, 10, 11, 12, 13, 35, 36, 37, 38, 39, 40, 41, 42, 43, 44, 45, 46, 47, 48, 49, 50, 51, 52, 53, 54, 55, 56, 57] (by decide +kernel) (by decide +kernel)
set_option maxRecDepth 20000 in
theorem gX3_mayUse_X3_clearPoisoned : GoodIn wsX3_mayUse (wsV RX3 167 RX3 yX3_clearPoisoned wsX3_clearPoisoned) := goodIn_app (goodIn_of _ (by decide +kernel)) ggX3_mayUse_X3_clearPoisoned
theorem dX3_mayUse_0 : decode cX3_mayUse 0 = .ok (.aload_n 0, 1) := by decide +kernel
theorem dX3_mayUse_1 : decode cX3_mayUse 1 = .ok (.getfield 23, 3) := by decide +kernel
theorem dX3_mayUse_4 : decode cX3_mayUse 4 = .ok (.iload_n 1, 1) := by decide +kernel
theorem dX3_mayUse_5 : decode cX3_mayUse 5 = .ok (.iload_n 2, 1) := by decide +kernel
theorem dX3_mayUse_6 : decode cX3_mayUse 6 = .ok (.invokestatic 120, 3) := by decide +kernel
theorem dX3_mayUse_9 : decode cX3_mayUse 9 = .ok (.invokevirtual 135, 3) := by decide +kernel
theorem dX3_mayUse_12 : decode cX3_mayUse 12 = .ok (.ifCond .eq 7, 3) := by decide +kernel
theorem dX3_mayUse_15 : decode cX3_mayUse 15 = .ok (.iload_n 2, 1) := by decide +kernel
theorem dX3_mayUse_16 : decode cX3_mayUse 16 = .ok (.goto 4, 3) := by decide +kernel
theorem dX3_mayUse_19 : decode cX3_mayUse 19 = .ok (.iload_n 3, 1) := by decide +kernel
theorem dX3_mayUse_20 : decode cX3_mayUse 20 = .ok (.istore 4, 2) := by decide +kernel
theorem dX3_mayUse_22 : decode cX3_mayUse 22 = .ok (.iload_n 1, 1) := by decide +kernel
theorem dX3_mayUse_23 : decode cX3_mayUse 23 = .ok (.iload 4, 2) := by decide +kernel
theorem dX3_mayUse_25 : decode cX3_mayUse 25 = .ok (.invokestatic 120, 3) := by decide +kernel
theorem dX3_mayUse_28 : decode cX3_mayUse 28 = .ok (.istore 5, 2) := by decide +kernel
theorem dX3_mayUse_30 : decode cX3_mayUse 30 = .ok (.aload_n 0, 1) := by decide +kernel
theorem dX3_mayUse_31 : decode cX3_mayUse 31 = .ok (.getfield 23, 3) := by decide +kernel
theorem dX3_mayUse_34 : decode cX3_mayUse 34 = .ok (.iload 5, 2) := by decide +kernel
theorem dX3_mayUse_36 : decode cX3_mayUse 36 = .ok (.invokevirtual 135, 3) := by decide +kernel
theorem dX3_mayUse_39 : decode cX3_mayUse 39 = .ok (.ifCond .ne 5, 3) := by decide +kernel
theorem dX3_mayUse_42 : decode cX3_mayUse 42 = .ok (.iconst 1, 1) := by decide +kernel
theorem dX3_mayUse_43 : decode cX3_mayUse 43 = .ok (.ireturn, 1) := by decide +kernel
theorem dX3_mayUse_44 : decode cX3_mayUse 44 = .ok (.aload_n 0, 1) := by decide +kernel
theorem dX3_mayUse_45 : decode cX3_mayUse 45 = .ok (.getfield 43, 3) := by decide +kernel
theorem dX3_mayUse_48 : decode cX3_mayUse 48 = .ok (.iload_n 1, 1) := by decide +kernel
theorem dX3_mayUse_49 : decode cX3_mayUse 49 = .ok (.iload 4, 2) := by decide +kernel
theorem dX3_mayUse_51 : decode cX3_mayUse 51 = .ok (.aload_n 0, 1) := by decide +kernel
theorem dX3_mayUse_52 : decode cX3_mayUse 52 = .ok (.getfield 23, 3) := by decide +kernel
theorem dX3_mayUse_55 : decode cX3_mayUse 55 = .ok (.getfield 160, 3) := by decide +kernel
theorem dX3_mayUse_58 : decode cX3_mayUse 58 = .ok (.iload 5, 2) := by decide +kernel
theorem dX3_mayUse_60 : decode cX3_mayUse 60 = .ok (.iaload, 1) := by decide +kernel
theorem dX3_mayUse_61 : decode cX3_mayUse 61 = .ok (.aload_n 0, 1) := by decide +kernel
theorem dX3_mayUse_62 : decode cX3_mayUse 62 = .ok (.getfield 30, 3) := by decide +kernel
theorem dX3_mayUse_65 : decode cX3_mayUse 65 = .ok (.iload_n 1, 1) := by decide +kernel
theorem dX3_mayUse_66 : decode cX3_mayUse 66 = .ok (.iaload, 1) := by decide +kernel
theorem dX3_mayUse_67 : decode cX3_mayUse 67 = .ok (.invokevirtual 163, 3) := by decide +kernel
theorem dX3_mayUse_70 : decode cX3_mayUse 70 = .ok (.aload_n 0, 1) := by decide +kernel
theorem dX3_mayUse_71 : decode cX3_mayUse 71 = .ok (.getfield 30, 3) := by decide +kernel
theorem dX3_mayUse_74 : decode cX3_mayUse 74 = .ok (.iload_n 1, 1) := by decide +kernel
theorem dX3_mayUse_75 : decode cX3_mayUse 75 = .ok (.iaload, 1) := by decide +kernel
theorem dX3_mayUse_76 : decode cX3_mayUse 76 = .ok (.iconst 2, 1) := by decide +kernel
theorem dX3_mayUse_77 : decode cX3_mayUse 77 = .ok (.if_icmp .ne 23, 3) := by decide +kernel
theorem dX3_mayUse_80 : decode cX3_mayUse 80 = .ok (.aload_n 0, 1) := by decide +kernel
theorem dX3_mayUse_81 : decode cX3_mayUse 81 = .ok (.iload_n 1, 1) := by decide +kernel
theorem dX3_mayUse_82 : decode cX3_mayUse 82 = .ok (.iload_n 2, 1) := by decide +kernel
theorem dX3_mayUse_83 : decode cX3_mayUse 83 = .ok (.invokestatic 120, 3) := by decide +kernel
theorem dX3_mayUse_86 : decode cX3_mayUse 86 = .ok (.invokevirtual 167, 3) := by decide +kernel
theorem dX3_mayUse_89 : decode cX3_mayUse 89 = .ok (.aload_n 0, 1) := by decide +kernel
theorem dX3_mayUse_90 : decode cX3_mayUse 90 = .ok (.iload_n 1, 1) := by decide +kernel
theorem dX3_mayUse_91 : decode cX3_mayUse 91 = .ok (.iload_n 3, 1) := by decide +kernel
theorem dX3_mayUse_92 : decode cX3_mayUse 92 = .ok (.invokestatic 120, 3) := by decide +kernel
theorem dX3_mayUse_95 : decode cX3_mayUse 95 = .ok (.invokevirtual 167, 3) := by decide +kernel
theorem dX3_mayUse_98 : decode cX3_mayUse 98 = .ok (.iconst 1, 1) := by decide +kernel
theorem dX3_mayUse_99 : decode cX3_mayUse 99 = .ok (.ireturn, 1) := by decide +kernel
theorem dX3_mayUse_100 : decode cX3_mayUse 100 = .ok (.aload_n 0, 1) := by decide +kernel
theorem dX3_mayUse_101 : decode cX3_mayUse 101 = .ok (.getfield 30, 3) := by decide +kernel
theorem dX3_mayUse_104 : decode cX3_mayUse 104 = .ok (.iload_n 1, 1) := by decide +kernel
theorem dX3_mayUse_105 : decode cX3_mayUse 105 = .ok (.iaload, 1) := by decide +kernel
theorem dX3_mayUse_106 : decode cX3_mayUse 106 = .ok (.ifCond .ne 10, 3) := by decide +kernel
theorem dX3_mayUse_109 : decode cX3_mayUse 109 = .ok (.aload_n 0, 1) := by decide +kernel
theorem dX3_mayUse_110 : decode cX3_mayUse 110 = .ok (.getfield 34, 3) := by decide +kernel
theorem dX3_mayUse_113 : decode cX3_mayUse 113 = .ok (.iload_n 1, 1) := by decide +kernel
theorem dX3_mayUse_114 : decode cX3_mayUse 114 = .ok (.iconst 1, 1) := by decide +kernel
theorem dX3_mayUse_115 : decode cX3_mayUse 115 = .ok (.bastore, 1) := by decide +kernel
theorem dX3_mayUse_116 : decode cX3_mayUse 116 = .ok (.iconst 0, 1) := by decide +kernel
theorem dX3_mayUse_117 : decode cX3_mayUse 117 = .ok (.ireturn, 1) := by decide +kernel
set_option maxRecDepth 20000 in
theorem ggX3_clearPoisoned_X0_isPoisoned : GoodIn wsX3_clearPoisoned wsX0_isPoisoned := goodIn_r _ [6, 7, 28, 29, 30] (by decide +kernel) (by decide +kernel)
set_option maxRecDepth 20000 in
theorem gX3_clearPoisoned_X0_isPoisoned : GoodIn wsX3_clearPoisoned (wsV RX3 135 RX0 yX0_isPoisoned wsX0_isPoisoned) := goodIn_app (goodIn_of _ (by decide +kernel)) ggX3_clearPoisoned_X0_isPoisoned
set_option maxRecDepth 20000 in
theorem ggX3_clearPoisoned_X0_setClean : GoodIn wsX3_clearPoisoned wsX0_setClean := goodIn_r _ [11, 12, 13, 14, 15, 5, 16, 7, 17, 28, 29, 30] (by decide +kernel) (by decide +kernel)
set_option maxRecDepth 20000 in
theorem gX3_clearPoisoned_X0_setClean : GoodIn wsX3_clearPoisoned (wsV RX3 103 RX0 yX0_setClean wsX0_setClean) := goodIn_app (goodIn_of _ (by decide +kernel)) ggX3_clearPoisoned_X0_setClean
theorem dX3_clearPoisoned_0 : decode cX3_clearPoisoned 0 = .ok (.aload_n 0, 1) := by decide +kernel
theorem dX3_clearPoisoned_1 : decode cX3_clearPoisoned 1 = .ok (.getfield 23, 3) := by decide +kernel
theorem dX3_clearPoisoned_4 : decode cX3_clearPoisoned 4 = .ok (.iload_n 1, 1) := by decide +kernel
theorem dX3_clearPoisoned_5 : decode cX3_clearPoisoned 5 = .ok (.invokevirtual 135, 3) := by decide +kernel
theorem dX3_clearPoisoned_8 : decode cX3_clearPoisoned 8 = .ok (.ifCond .eq 12, 3) := by decide +kernel
theorem dX3_clearPoisoned_11 : decode cX3_clearPoisoned 11 = .ok (.aload_n 0, 1) := by decide +kernel
theorem dX3_clearPoisoned_12 : decode cX3_clearPoisoned 12 = .ok (.getfield 23, 3) := by decide +kernel
theorem dX3_clearPoisoned_15 : decode cX3_clearPoisoned 15 = .ok (.iload_n 1, 1) := by decide +kernel
theorem dX3_clearPoisoned_16 : decode cX3_clearPoisoned 16 = .ok (.iconst 0, 1) := by decide +kernel
theorem dX3_clearPoisoned_17 : decode cX3_clearPoisoned 17 = .ok (.invokevirtual 103, 3) := by decide +kernel
theorem dX3_clearPoisoned_20 : decode cX3_clearPoisoned 20 = .ok (.return_, 1) := by decide +kernel
theorem dX3_calculate_0 : decode cX3_calculate 0 = .ok (.iload_n 0, 1) := by decide +kernel
theorem dX3_calculate_1 : decode cX3_calculate 1 = .ok (.tableswitch 45 0 2 #[27, 34, 41], 27) := by decide +kernel
theorem dX3_calculate_28 : decode cX3_calculate 28 = .ok (.iload_n 1, 1) := by decide +kernel
theorem dX3_calculate_29 : decode cX3_calculate 29 = .ok (.iload_n 2, 1) := by decide +kernel
theorem dX3_calculate_30 : decode cX3_calculate 30 = .ok (.iadd, 1) := by decide +kernel
theorem dX3_calculate_31 : decode cX3_calculate 31 = .ok (.ldc 170, 2) := by decide +kernel
theorem dX3_calculate_33 : decode cX3_calculate 33 = .ok (.iand, 1) := by decide +kernel
theorem dX3_calculate_34 : decode cX3_calculate 34 = .ok (.ireturn, 1) := by decide +kernel
theorem dX3_calculate_35 : decode cX3_calculate 35 = .ok (.iload_n 1, 1) := by decide +kernel
theorem dX3_calculate_36 : decode cX3_calculate 36 = .ok (.iload_n 2, 1) := by decide +kernel
theorem dX3_calculate_37 : decode cX3_calculate 37 = .ok (.isub, 1) := by decide +kernel
theorem dX3_calculate_38 : decode cX3_calculate 38 = .ok (.ldc 170, 2) := by decide +kernel
theorem dX3_calculate_40 : decode cX3_calculate 40 = .ok (.iand, 1) := by decide +kernel
theorem dX3_calculate_41 : decode cX3_calculate 41 = .ok (.ireturn, 1) := by decide +kernel
theorem dX3_calculate_42 : decode cX3_calculate 42 = .ok (.iload_n 1, 1) := by decide +kernel
theorem dX3_calculate_43 : decode cX3_calculate 43 = .ok (.iload_n 2, 1) := by decide +kernel
theorem dX3_calculate_44 : decode cX3_calculate 44 = .ok (.ixor, 1) := by decide +kernel
theorem dX3_calculate_45 : decode cX3_calculate 45 = .ok (.ireturn, 1) := by decide +kernel
theorem dX3_calculate_46 : decode cX3_calculate 46 = .ok (.iload_n 1, 1) := by decide +kernel
theorem dX3_calculate_47 : decode cX3_calculate 47 = .ok (.iload_n 2, 1) := by decide +kernel
theorem dX3_calculate_48 : decode cX3_calculate 48 = .ok (.imul, 1) := by decide +kernel
theorem dX3_calculate_49 : decode cX3_calculate 49 = .ok (.ldc 170, 2) := by decide +kernel
theorem dX3_calculate_51 : decode cX3_calculate 51 = .ok (.iand, 1) := by decide +kernel
theorem dX3_calculate_52 : decode cX3_calculate 52 = .ok (.ireturn, 1) := by decide +kernel
theorem dX3_isOrigin_0 : decode cX3_isOrigin 0 = .ok (.iload_n 1, 1) := by decide +kernel
theorem dX3_isOrigin_1 : decode cX3_isOrigin 1 = .ok (.ifCond .lt 15, 3) := by decide +kernel
theorem dX3_isOrigin_4 : decode cX3_isOrigin 4 = .ok (.iload_n 1, 1) := by decide +kernel
theorem dX3_isOrigin_5 : decode cX3_isOrigin 5 = .ok (.aload_n 0, 1) := by decide +kernel
theorem dX3_isOrigin_6 : decode cX3_isOrigin 6 = .ok (.getfield 64, 3) := by decide +kernel
theorem dX3_isOrigin_9 : decode cX3_isOrigin 9 = .ok (.if_icmp .ge 7, 3) := by decide +kernel
theorem dX3_isOrigin_12 : decode cX3_isOrigin 12 = .ok (.iconst 1, 1) := by decide +kernel
theorem dX3_isOrigin_13 : decode cX3_isOrigin 13 = .ok (.goto 4, 3) := by decide +kernel
theorem dX3_isOrigin_16 : decode cX3_isOrigin 16 = .ok (.iconst 0, 1) := by decide +kernel
theorem dX3_isOrigin_17 : decode cX3_isOrigin 17 = .ok (.ireturn, 1) := by decide +kernel
theorem dX3_countMirrored_0 : decode cX3_countMirrored 0 = .ok (.iconst 0, 1) := by decide +kernel
theorem dX3_countMirrored_1 : decode cX3_countMirrored 1 = .ok (.istore_n 1, 1) := by decide +kernel
theorem dX3_countMirrored_2 : decode cX3_countMirrored 2 = .ok (.iconst 0, 1) := by decide +kernel
theorem dX3_countMirrored_3 : decode cX3_countMirrored 3 = .ok (.istore_n 2, 1) := by decide +kernel
theorem dX3_countMirrored_4 : decode cX3_countMirrored 4 = .ok (.iload_n 2, 1) := by decide +kernel
theorem dX3_countMirrored_5 : decode cX3_countMirrored 5 = .ok (.bipush 8, 2) := by decide +kernel
theorem dX3_countMirrored_7 : decode cX3_countMirrored 7 = .ok (.if_icmp .ge 21, 3) := by decide +kernel
theorem dX3_countMirrored_10 : decode cX3_countMirrored 10 = .ok (.aload_n 0, 1) := by decide +kernel
theorem dX3_countMirrored_11 : decode cX3_countMirrored 11 = .ok (.getfield 26, 3) := by decide +kernel
theorem dX3_countMirrored_14 : decode cX3_countMirrored 14 = .ok (.iload_n 2, 1) := by decide +kernel
theorem dX3_countMirrored_15 : decode cX3_countMirrored 15 = .ok (.baload, 1) := by decide +kernel
theorem dX3_countMirrored_16 : decode cX3_countMirrored 16 = .ok (.ifCond .eq 6, 3) := by decide +kernel
theorem dX3_countMirrored_19 : decode cX3_countMirrored 19 = .ok (.iinc 1 1, 3) := by decide +kernel
theorem dX3_countMirrored_22 : decode cX3_countMirrored 22 = .ok (.iinc 2 1, 3) := by decide +kernel
theorem dX3_countMirrored_25 : decode cX3_countMirrored 25 = .ok (.goto (-21), 3) := by decide +kernel
theorem dX3_countMirrored_28 : decode cX3_countMirrored 28 = .ok (.iload_n 1, 1) := by decide +kernel
theorem dX3_countMirrored_29 : decode cX3_countMirrored 29 = .ok (.ireturn, 1) := by decide +kernel
set_option maxRecDepth 20000 in
theorem ggX3_countHealable_X3_canHeal : GoodIn wsX3_countHealable wsX3_canHeal := goodIn_r _ [5, 6, 7, 8, 9, 10, 11, 12, 13, 14, 15, 16, 4, 17, 18, 19, 20, 21, 22, 23, 24, 25, 26, 27, 28, 29, 30, 31] (by decide +kernel) (by decide +kernel)
set_option maxRecDepth 20000 in
theorem gX3_countHealable_X3_canHeal : GoodIn wsX3_countHealable (wsV RX3 154 RX3 yX3_canHeal wsX3_canHeal) := goodIn_app (goodIn_of _ (by decide +kernel)) ggX3_countHealable_X3_canHeal
theorem dX3_countHealable_0 : decode cX3_countHealable 0 = .ok (.iconst 0, 1) := by decide +kernel
theorem dX3_countHealable_1 : decode cX3_countHealable 1 = .ok (.istore_n 3, 1) := by decide +kernel
theorem dX3_countHealable_2 : decode cX3_countHealable 2 = .ok (.iload_n 1, 1) := by decide +kernel
theorem dX3_countHealable_3 : decode cX3_countHealable 3 = .ok (.istore 4, 2) := by decide +kernel
theorem dX3_countHealable_5 : decode cX3_countHealable 5 = .ok (.iload 4, 2) := by decide +kernel
theorem dX3_countHealable_7 : decode cX3_countHealable 7 = .ok (.iload_n 2, 1) := by decide +kernel
theorem dX3_countHealable_8 : decode cX3_countHealable 8 = .ok (.if_icmp .ge 21, 3) := by decide +kernel
theorem dX3_countHealable_11 : decode cX3_countHealable 11 = .ok (.aload_n 0, 1) := by decide +kernel
theorem dX3_countHealable_12 : decode cX3_countHealable 12 = .ok (.iload 4, 2) := by decide +kernel
theorem dX3_countHealable_14 : decode cX3_countHealable 14 = .ok (.invokevirtual 154, 3) := by decide +kernel
theorem dX3_countHealable_17 : decode cX3_countHealable 17 = .ok (.ifCond .eq 6, 3) := by decide +kernel
theorem dX3_countHealable_20 : decode cX3_countHealable 20 = .ok (.iinc 3 1, 3) := by decide +kernel
theorem dX3_countHealable_23 : decode cX3_countHealable 23 = .ok (.iinc 4 1, 3) := by decide +kernel
theorem dX3_countHealable_26 : decode cX3_countHealable 26 = .ok (.goto (-21), 3) := by decide +kernel
theorem dX3_countHealable_29 : decode cX3_countHealable 29 = .ok (.iload_n 3, 1) := by decide +kernel
theorem dX3_countHealable_30 : decode cX3_countHealable 30 = .ok (.ireturn, 1) := by decide +kernel
set_option maxRecDepth 20000 in
theorem ggX3_countCarriers_X0_countOrigin : GoodIn wsX3_countCarriers wsX0_countOrigin := goodIn_r _ [7, 8, 19, 20, 21] (by decide +kernel) (by decide +kernel)
set_option maxRecDepth 20000 in
theorem gX3_countCarriers_X0_countOrigin : GoodIn wsX3_countCarriers (wsV RX3 171 RX0 yX0_countOrigin wsX0_countOrigin) := goodIn_app (goodIn_of _ (by decide +kernel)) ggX3_countCarriers_X0_countOrigin
theorem dX3_countCarriers_0 : decode cX3_countCarriers 0 = .ok (.aload_n 0, 1) := by decide +kernel
theorem dX3_countCarriers_1 : decode cX3_countCarriers 1 = .ok (.getfield 14, 3) := by decide +kernel
theorem dX3_countCarriers_4 : decode cX3_countCarriers 4 = .ok (.iload_n 1, 1) := by decide +kernel
theorem dX3_countCarriers_5 : decode cX3_countCarriers 5 = .ok (.invokevirtual 171, 3) := by decide +kernel
theorem dX3_countCarriers_8 : decode cX3_countCarriers 8 = .ok (.aload_n 0, 1) := by decide +kernel
theorem dX3_countCarriers_9 : decode cX3_countCarriers 9 = .ok (.getfield 23, 3) := by decide +kernel
theorem dX3_countCarriers_12 : decode cX3_countCarriers 12 = .ok (.iload_n 1, 1) := by decide +kernel
theorem dX3_countCarriers_13 : decode cX3_countCarriers 13 = .ok (.invokevirtual 171, 3) := by decide +kernel
theorem dX3_countCarriers_16 : decode cX3_countCarriers 16 = .ok (.iadd, 1) := by decide +kernel
theorem dX3_countCarriers_17 : decode cX3_countCarriers 17 = .ok (.ireturn, 1) := by decide +kernel
