theorem dX6_restart_29 : decode cX6_restart 29 = .ok (.iload 4, 2) := by decide +kernel
theorem dX6_restart_31 : decode cX6_restart 31 = .ok (.invokestatic 52, 3) := by decide +kernel
theorem dX6_restart_34 : decode cX6_restart 34 = .ok (.invokevirtual 38, 3) := by decide +kernel
theorem dX6_restart_37 : decode cX6_restart 37 = .ok (.ifCond .eq 7, 3) := by decide +kernel
theorem dX6_restart_40 : decode cX6_restart 40 = .ok (.iconst 1, 1) := by decide +kernel
theorem dX6_restart_41 : decode cX6_restart 41 = .ok (.goto 4, 3) := by decide +kernel
theorem dX6_restart_44 : decode cX6_restart 44 = .ok (.iconst 0, 1) := by decide +kernel
theorem dX6_restart_45 : decode cX6_restart 45 = .ok (.iadd, 1) := by decide +kernel
theorem dX6_restart_46 : decode cX6_restart 46 = .ok (.istore_n 3, 1) := by decide +kernel
theorem dX6_restart_47 : decode cX6_restart 47 = .ok (.aload_n 0, 1) := by decide +kernel
theorem dX6_restart_48 : decode cX6_restart 48 = .ok (.iload_n 2, 1) := by decide +kernel
theorem dX6_restart_49 : decode cX6_restart 49 = .ok (.iload_n 1, 1) := by decide +kernel
theorem dX6_restart_50 : decode cX6_restart 50 = .ok (.iload 4, 2) := by decide +kernel
theorem dX6_restart_52 : decode cX6_restart 52 = .ok (.invokestatic 52, 3) := by decide +kernel
theorem dX6_restart_55 : decode cX6_restart 55 = .ok (.iconst 0, 1) := by decide +kernel
theorem dX6_restart_56 : decode cX6_restart 56 = .ok (.bipush (-6), 2) := by decide +kernel
theorem dX6_restart_58 : decode cX6_restart 58 = .ok (.iconst 0, 1) := by decide +kernel
theorem dX6_restart_59 : decode cX6_restart 59 = .ok (.invokevirtual 30, 3) := by decide +kernel
theorem dX6_restart_62 : decode cX6_restart 62 = .ok (.iinc 4 1, 3) := by decide +kernel
theorem dX6_restart_65 : decode cX6_restart 65 = .ok (.goto (-46), 3) := by decide +kernel
theorem dX6_restart_68 : decode cX6_restart 68 = .ok (.aload_n 0, 1) := by decide +kernel
theorem dX6_restart_69 : decode cX6_restart 69 = .ok (.getfield 7, 3) := by decide +kernel
theorem dX6_restart_72 : decode cX6_restart 72 = .ok (.iload_n 2, 1) := by decide +kernel
theorem dX6_restart_73 : decode cX6_restart 73 = .ok (.sipush 252, 3) := by decide +kernel
theorem dX6_restart_76 : decode cX6_restart 76 = .ok (.iadd, 1) := by decide +kernel
theorem dX6_restart_77 : decode cX6_restart 77 = .ok (.iload_n 1, 1) := by decide +kernel
theorem dX6_restart_78 : decode cX6_restart 78 = .ok (.iadd, 1) := by decide +kernel
theorem dX6_restart_79 : decode cX6_restart 79 = .ok (.iconst 0, 1) := by decide +kernel
theorem dX6_restart_80 : decode cX6_restart 80 = .ok (.iastore, 1) := by decide +kernel
theorem dX6_restart_81 : decode cX6_restart 81 = .ok (.aload_n 0, 1) := by decide +kernel
theorem dX6_restart_82 : decode cX6_restart 82 = .ok (.iload_n 3, 1) := by decide +kernel
theorem dX6_restart_83 : decode cX6_restart 83 = .ok (.invokevirtual 106, 3) := by decide +kernel
theorem dX6_restart_86 : decode cX6_restart 86 = .ok (.ireturn, 1) := by decide +kernel
set_option maxRecDepth 20000 in
theorem ggX6_setRegister_X6_isOne : GoodIn wsX6_setRegister wsX6_isOne := goodIn_r _ [5, 6, 7, 4, 8] (by decide +kernel) (by decide +kernel)
set_option maxRecDepth 20000 in
theorem gX6_setRegister_X6_isOne : GoodIn wsX6_setRegister (va_wsS RX6 113 yX6_isOne wsX6_isOne) := goodIn_app (goodIn_of _ (by decide +kernel)) ggX6_setRegister_X6_isOne
set_option maxRecDepth 20000 in
theorem ggX6_setRegister_X6_in : GoodIn wsX6_setRegister wsX6_in := goodIn_r _ [8] (by decide +kernel) (by decide +kernel)
set_option maxRecDepth 20000 in
theorem gX6_setRegister_X6_in : GoodIn wsX6_setRegister (va_wsS RX6 22 yX6_in wsX6_in) := goodIn_app (goodIn_of _ (by decide +kernel)) ggX6_setRegister_X6_in
set_option maxRecDepth 20000 in
theorem ggX6_setRegister_X6_begins : GoodIn wsX6_setRegister wsX6_begins := goodIn_r _ [12, 13, 14, 15, 4, 16, 17, 41, 42, 43, 44, 45, 46, 47, 48] (by decide +kernel) (by decide +kernel)
set_option maxRecDepth 20000 in
theorem gX6_setRegister_X6_begins : GoodIn wsX6_setRegister (wsV RX6 99 RX6 yX6_begins wsX6_begins) := goodIn_app (goodIn_of _ (by decide +kernel)) ggX6_setRegister_X6_begins
set_option maxRecDepth 20000 in
theorem ggX6_setRegister_X6_sets : GoodIn wsX6_setRegister wsX6_sets := goodIn_r _ [21, 17, 22, 23, 24, 4, 25, 26, 27, 28, 29, 30, 31, 32, 41, 42, 43, 44, 45, 46, 47, 48] (by decide +kernel) (by decide +kernel)
set_option maxRecDepth 20000 in
theorem gX6_setRegister_X6_sets : GoodIn wsX6_setRegister (wsV RX6 116 RX6 yX6_sets wsX6_sets) := goodIn_app (goodIn_of _ (by decide +kernel)) ggX6_setRegister_X6_sets
set_option maxRecDepth 20000 in
theorem ggX6_setRegister_X6_accepts : GoodIn wsX6_setRegister wsX6_accepts := goodIn_r _ [36, 37, 38, 39, 4, 40, 13, 14, 15, 16, 17, 41, 42, 43, 44, 45, 46, 47, 48] (by decide +kernel) (by decide +kernel)
set_option maxRecDepth 20000 in
theorem gX6_setRegister_X6_accepts : GoodIn wsX6_setRegister (wsV RX6 106 RX6 yX6_accepts wsX6_accepts) := goodIn_app (goodIn_of _ (by decide +kernel)) ggX6_setRegister_X6_accepts
theorem dX6_setRegister_0 : decode cX6_setRegister 0 = .ok (.iload_n 1, 1) := by decide +kernel
theorem dX6_setRegister_1 : decode cX6_setRegister 1 = .ok (.invokestatic 113, 3) := by decide +kernel
theorem dX6_setRegister_4 : decode cX6_setRegister 4 = .ok (.ifCond .eq 10, 3) := by decide +kernel
theorem dX6_setRegister_7 : decode cX6_setRegister 7 = .ok (.iload_n 2, 1) := by decide +kernel
theorem dX6_setRegister_8 : decode cX6_setRegister 8 = .ok (.invokestatic 113, 3) := by decide +kernel
theorem dX6_setRegister_11 : decode cX6_setRegister 11 = .ok (.ifCond .ne 5, 3) := by decide +kernel
theorem dX6_setRegister_14 : decode cX6_setRegister 14 = .ok (.iconst (-1), 1) := by decide +kernel
theorem dX6_setRegister_15 : decode cX6_setRegister 15 = .ok (.ireturn, 1) := by decide +kernel
theorem dX6_setRegister_16 : decode cX6_setRegister 16 = .ok (.iload_n 3, 1) := by decide +kernel
theorem dX6_setRegister_17 : decode cX6_setRegister 17 = .ok (.iconst 0, 1) := by decide +kernel
theorem dX6_setRegister_18 : decode cX6_setRegister 18 = .ok (.ldc 109, 2) := by decide +kernel
theorem dX6_setRegister_20 : decode cX6_setRegister 20 = .ok (.invokestatic 22, 3) := by decide +kernel
theorem dX6_setRegister_23 : decode cX6_setRegister 23 = .ok (.ifCond .eq 21, 3) := by decide +kernel
theorem dX6_setRegister_26 : decode cX6_setRegister 26 = .ok (.aload_n 0, 1) := by decide +kernel
theorem dX6_setRegister_27 : decode cX6_setRegister 27 = .ok (.aload_n 0, 1) := by decide +kernel
theorem dX6_setRegister_28 : decode cX6_setRegister 28 = .ok (.aload_n 0, 1) := by decide +kernel
theorem dX6_setRegister_29 : decode cX6_setRegister 29 = .ok (.invokevirtual 99, 3) := by decide +kernel
theorem dX6_setRegister_32 : decode cX6_setRegister 32 = .ok (.iload_n 1, 1) := by decide +kernel
theorem dX6_setRegister_33 : decode cX6_setRegister 33 = .ok (.iload_n 2, 1) := by decide +kernel
theorem dX6_setRegister_34 : decode cX6_setRegister 34 = .ok (.iload_n 3, 1) := by decide +kernel
theorem dX6_setRegister_35 : decode cX6_setRegister 35 = .ok (.invokevirtual 116, 3) := by decide +kernel
theorem dX6_setRegister_38 : decode cX6_setRegister 38 = .ok (.invokevirtual 106, 3) := by decide +kernel
theorem dX6_setRegister_41 : decode cX6_setRegister 41 = .ok (.goto 5, 3) := by decide +kernel
theorem dX6_setRegister_44 : decode cX6_setRegister 44 = .ok (.bipush (-2), 2) := by decide +kernel
theorem dX6_setRegister_46 : decode cX6_setRegister 46 = .ok (.ireturn, 1) := by decide +kernel
set_option maxRecDepth 20000 in
theorem ggX6_load_X6_isOne : GoodIn wsX6_load wsX6_isOne := goodIn_r _ [4, 5, 6, 3, 7] (by decide +kernel) (by decide +kernel)
set_option maxRecDepth 20000 in
theorem gX6_load_X6_isOne : GoodIn wsX6_load (va_wsS RX6 113 yX6_isOne wsX6_isOne) := goodIn_app (goodIn_of _ (by decide +kernel)) ggX6_load_X6_isOne
set_option maxRecDepth 20000 in
theorem ggX6_load_X6_isWord : GoodIn wsX6_load wsX6_isWord := goodIn_r _ [10, 5, 6, 3, 7] (by decide +kernel) (by decide +kernel)
set_option maxRecDepth 20000 in
theorem gX6_load_X6_isWord : GoodIn wsX6_load (va_wsS RX6 96 yX6_isWord wsX6_isWord) := goodIn_app (goodIn_of _ (by decide +kernel)) ggX6_load_X6_isWord
set_option maxRecDepth 20000 in
theorem ggX6_load_X6_begins : GoodIn wsX6_load wsX6_begins := goodIn_r _ [14, 15, 16, 17, 3, 18, 19, 72, 73, 74, 75, 76, 77, 78, 79] (by decide +kernel) (by decide +kernel)
set_option maxRecDepth 20000 in
theorem gX6_load_X6_begins : GoodIn wsX6_load (wsV RX6 99 RX6 yX6_begins wsX6_begins) := goodIn_app (goodIn_of _ (by decide +kernel)) ggX6_load_X6_begins
set_option maxRecDepth 20000 in
theorem ggX6_load_X6_loads : GoodIn wsX6_load wsX6_loads := goodIn_r _ [23, 19, 24, 25, 26, 3, 27, 28, 29, 30, 31, 32, 33, 34, 35, 36, 37, 38, 39, 40, 41, 42, 43, 44, 45, 46, 47, 48, 49, 50, 51, 52, 53, 54, 55, 56, 57, 58, 59, 60, 61, 62, 63, 72, 73, 74, 75, 76, 77, 78, 79] (by decide +kernel) (by decide +kernel)
set_option maxRecDepth 20000 in
theorem gX6_load_X6_loads : GoodIn wsX6_load (wsV RX6 82 RX6 yX6_loads wsX6_loads) := goodIn_app (goodIn_of _ (by decide +kernel)) ggX6_load_X6_loads
set_option maxRecDepth 20000 in
theorem ggX6_load_X6_accepts : GoodIn wsX6_load wsX6_accepts := goodIn_r _ [67, 68, 69, 70, 3, 71, 15, 16, 17, 18, 19, 72, 73, 74, 75, 76, 77, 78, 79] (by decide +kernel) (by decide +kernel)
set_option maxRecDepth 20000 in
theorem gX6_load_X6_accepts : GoodIn wsX6_load (wsV RX6 106 RX6 yX6_accepts wsX6_accepts) := goodIn_app (goodIn_of _ (by decide +kernel)) ggX6_load_X6_accepts
theorem dX6_load_0 : decode cX6_load 0 = .ok (.iload_n 1, 1) := by decide +kernel
theorem dX6_load_1 : decode cX6_load 1 = .ok (.invokestatic 113, 3) := by decide +kernel
theorem dX6_load_4 : decode cX6_load 4 = .ok (.ifCond .eq 36, 3) := by decide +kernel
theorem dX6_load_7 : decode cX6_load 7 = .ok (.iload_n 2, 1) := by decide +kernel
theorem dX6_load_8 : decode cX6_load 8 = .ok (.invokestatic 113, 3) := by decide +kernel
theorem dX6_load_11 : decode cX6_load 11 = .ok (.ifCond .eq 29, 3) := by decide +kernel
theorem dX6_load_14 : decode cX6_load 14 = .ok (.iload_n 3, 1) := by decide +kernel
theorem dX6_load_15 : decode cX6_load 15 = .ok (.invokestatic 96, 3) := by decide +kernel
theorem dX6_load_18 : decode cX6_load 18 = .ok (.ifCond .eq 22, 3) := by decide +kernel
theorem dX6_load_21 : decode cX6_load 21 = .ok (.aload_n 0, 1) := by decide +kernel
theorem dX6_load_22 : decode cX6_load 22 = .ok (.aload_n 0, 1) := by decide +kernel
theorem dX6_load_23 : decode cX6_load 23 = .ok (.aload_n 0, 1) := by decide +kernel
theorem dX6_load_24 : decode cX6_load 24 = .ok (.invokevirtual 99, 3) := by decide +kernel
theorem dX6_load_27 : decode cX6_load 27 = .ok (.iload_n 1, 1) := by decide +kernel
theorem dX6_load_28 : decode cX6_load 28 = .ok (.iload_n 2, 1) := by decide +kernel
theorem dX6_load_29 : decode cX6_load 29 = .ok (.iload_n 3, 1) := by decide +kernel
theorem dX6_load_30 : decode cX6_load 30 = .ok (.iconst 2, 1) := by decide +kernel
theorem dX6_load_31 : decode cX6_load 31 = .ok (.invokevirtual 82, 3) := by decide +kernel
theorem dX6_load_34 : decode cX6_load 34 = .ok (.invokevirtual 106, 3) := by decide +kernel
theorem dX6_load_37 : decode cX6_load 37 = .ok (.goto 4, 3) := by decide +kernel
theorem dX6_load_40 : decode cX6_load 40 = .ok (.iconst (-1), 1) := by decide +kernel
theorem dX6_load_41 : decode cX6_load 41 = .ok (.ireturn, 1) := by decide +kernel
set_option maxRecDepth 20000 in
theorem ggX6_loadByte_X6_isOne : GoodIn wsX6_loadByte wsX6_isOne := goodIn_r _ [4, 5, 6, 3, 7] (by decide +kernel) (by decide +kernel)
set_option maxRecDepth 20000 in
theorem gX6_loadByte_X6_isOne : GoodIn wsX6_loadByte (va_wsS RX6 113 yX6_isOne wsX6_isOne) := goodIn_app (goodIn_of _ (by decide +kernel)) ggX6_loadByte_X6_isOne
set_option maxRecDepth 20000 in
theorem ggX6_loadByte_X6_isWord : GoodIn wsX6_loadByte wsX6_isWord := goodIn_r _ [10, 5, 6, 3, 7] (by decide +kernel) (by decide +kernel)
set_option maxRecDepth 20000 in
theorem gX6_loadByte_X6_isWord : GoodIn wsX6_loadByte (va_wsS RX6 96 yX6_isWord wsX6_isWord) := goodIn_app (goodIn_of _ (by decide +kernel)) ggX6_loadByte_X6_isWord
set_option maxRecDepth 20000 in
theorem ggX6_loadByte_X6_in : GoodIn wsX6_loadByte wsX6_in := goodIn_r _ [7] (by decide +kernel) (by decide +kernel)
set_option maxRecDepth 20000 in
theorem gX6_loadByte_X6_in : GoodIn wsX6_loadByte (va_wsS RX6 22 yX6_in wsX6_in) := goodIn_app (goodIn_of _ (by decide +kernel)) ggX6_loadByte_X6_in
set_option maxRecDepth 20000 in
theorem ggX6_loadByte_X6_begins : GoodIn wsX6_loadByte wsX6_begins := goodIn_r _ [14, 15, 16, 17, 3, 18, 19, 72, 73, 74, 75, 76, 77, 78, 79] (by decide +kernel) (by decide +kernel)
set_option maxRecDepth 20000 in
theorem gX6_loadByte_X6_begins : GoodIn wsX6_loadByte (wsV RX6 99 RX6 yX6_begins wsX6_begins) := goodIn_app (goodIn_of _ (by decide +kernel)) ggX6_loadByte_X6_begins
set_option maxRecDepth 20000 in
theorem ggX6_loadByte_X6_loads : GoodIn wsX6_loadByte wsX6_loads := goodIn_r _ [23, 19, 24, 25, 26, 3, 27, 28, 29, 30, 31, 32, 33, 34, 35, 36, 37, 38, 39, 40, 41, 42, 43, 44, 45, 46, 47, 48, 49, 50, 51, 52, 53, 54, 55, 56, 57, 58, 59, 60, 61, 62, 63, 72, 73, 74, 75, 76, 77, 78, 79] (by decide +kernel) (by decide +kernel)
set_option maxRecDepth 20000 in
theorem gX6_loadByte_X6_loads : GoodIn wsX6_loadByte (wsV RX6 82 RX6 yX6_loads wsX6_loads) := goodIn_app (goodIn_of _ (by decide +kernel)) ggX6_loadByte_X6_loads
set_option maxRecDepth 20000 in
theorem ggX6_loadByte_X6_accepts : GoodIn wsX6_loadByte wsX6_accepts := goodIn_r _ [67, 68, 69, 70, 3, 71, 15, 16, 17, 18, 19, 72, 73, 74, 75, 76, 77, 78, 79] (by decide +kernel) (by decide +kernel)
set_option maxRecDepth 20000 in
theorem gX6_loadByte_X6_accepts : GoodIn wsX6_loadByte (wsV RX6 106 RX6 yX6_accepts wsX6_accepts) := goodIn_app (goodIn_of _ (by decide +kernel)) ggX6_loadByte_X6_accepts
theorem dX6_loadByte_0 : decode cX6_loadByte 0 = .ok (.iload_n 1, 1) := by decide +kernel
theorem dX6_loadByte_1 : decode cX6_loadByte 1 = .ok (.invokestatic 113, 3) := by decide +kernel
theorem dX6_loadByte_4 : decode cX6_loadByte 4 = .ok (.ifCond .eq 17, 3) := by decide +kernel
theorem dX6_loadByte_7 : decode cX6_loadByte 7 = .ok (.iload_n 2, 1) := by decide +kernel
theorem dX6_loadByte_8 : decode cX6_loadByte 8 = .ok (.invokestatic 113, 3) := by decide +kernel
theorem dX6_loadByte_11 : decode cX6_loadByte 11 = .ok (.ifCond .eq 10, 3) := by decide +kernel
theorem dX6_loadByte_14 : decode cX6_loadByte 14 = .ok (.iload_n 3, 1) := by decide +kernel
theorem dX6_loadByte_15 : decode cX6_loadByte 15 = .ok (.invokestatic 96, 3) := by decide +kernel
theorem dX6_loadByte_18 : decode cX6_loadByte 18 = .ok (.ifCond .ne 5, 3) := by decide +kernel
theorem dX6_loadByte_21 : decode cX6_loadByte 21 = .ok (.iconst (-1), 1) := by decide +kernel
theorem dX6_loadByte_22 : decode cX6_loadByte 22 = .ok (.ireturn, 1) := by decide +kernel
theorem dX6_loadByte_23 : decode cX6_loadByte 23 = .ok (.iload 4, 2) := by decide +kernel
theorem dX6_loadByte_25 : decode cX6_loadByte 25 = .ok (.iconst 0, 1) := by decide +kernel
theorem dX6_loadByte_26 : decode cX6_loadByte 26 = .ok (.iconst 1, 1) := by decide +kernel
theorem dX6_loadByte_27 : decode cX6_loadByte 27 = .ok (.invokestatic 22, 3) := by decide +kernel
theorem dX6_loadByte_30 : decode cX6_loadByte 30 = .ok (.ifCond .eq 23, 3) := by decide +kernel
theorem dX6_loadByte_33 : decode cX6_loadByte 33 = .ok (.aload_n 0, 1) := by decide +kernel
theorem dX6_loadByte_34 : decode cX6_loadByte 34 = .ok (.aload_n 0, 1) := by decide +kernel
theorem dX6_loadByte_35 : decode cX6_loadByte 35 = .ok (.aload_n 0, 1) := by decide +kernel
theorem dX6_loadByte_36 : decode cX6_loadByte 36 = .ok (.invokevirtual 99, 3) := by decide +kernel
theorem dX6_loadByte_39 : decode cX6_loadByte 39 = .ok (.iload_n 1, 1) := by decide +kernel
theorem dX6_loadByte_40 : decode cX6_loadByte 40 = .ok (.iload_n 2, 1) := by decide +kernel
theorem dX6_loadByte_41 : decode cX6_loadByte 41 = .ok (.iload_n 3, 1) := by decide +kernel
theorem dX6_loadByte_42 : decode cX6_loadByte 42 = .ok (.iload 4, 2) := by decide +kernel
theorem dX6_loadByte_44 : decode cX6_loadByte 44 = .ok (.invokevirtual 82, 3) := by decide +kernel
theorem dX6_loadByte_47 : decode cX6_loadByte 47 = .ok (.invokevirtual 106, 3) := by decide +kernel
theorem dX6_loadByte_50 : decode cX6_loadByte 50 = .ok (.goto 5, 3) := by decide +kernel
theorem dX6_loadByte_53 : decode cX6_loadByte 53 = .ok (.bipush (-2), 2) := by decide +kernel
theorem dX6_loadByte_55 : decode cX6_loadByte 55 = .ok (.ireturn, 1) := by decide +kernel
set_option maxRecDepth 20000 in
theorem ggX6_store_X6_isOne : GoodIn wsX6_store wsX6_isOne := goodIn_r _ [4, 5, 6, 3, 7] (by decide +kernel) (by decide +kernel)
set_option maxRecDepth 20000 in
theorem gX6_store_X6_isOne : GoodIn wsX6_store (va_wsS RX6 113 yX6_isOne wsX6_isOne) := goodIn_app (goodIn_of _ (by decide +kernel)) ggX6_store_X6_isOne
set_option maxRecDepth 20000 in
theorem ggX6_store_X6_isWord : GoodIn wsX6_store wsX6_isWord := goodIn_r _ [10, 5, 6, 3, 7] (by decide +kernel) (by decide +kernel)
set_option maxRecDepth 20000 in
theorem gX6_store_X6_isWord : GoodIn wsX6_store (va_wsS RX6 96 yX6_isWord wsX6_isWord) := goodIn_app (goodIn_of _ (by decide +kernel)) ggX6_store_X6_isWord
set_option maxRecDepth 20000 in
theorem ggX6_store_X6_begins : GoodIn wsX6_store wsX6_begins := goodIn_r _ [14, 15, 16, 17, 3, 18, 19, 68, 69, 70, 71, 72, 73, 74, 75] (by decide +kernel) (by decide +kernel)
set_option maxRecDepth 20000 in
theorem gX6_store_X6_begins : GoodIn wsX6_store (wsV RX6 99 RX6 yX6_begins wsX6_begins) := goodIn_app (goodIn_of _ (by decide +kernel)) ggX6_store_X6_begins
set_option maxRecDepth 20000 in
theorem ggX6_store_X6_stores : GoodIn wsX6_store wsX6_stores := goodIn_r _ [23, 19, 24, 25, 26, 3, 27, 28, 29, 30, 31, 32, 33, 34, 35, 36, 37, 38, 39, 40, 41, 42, 43, 44, 45, 46, 47, 48, 49, 50, 51, 52, 53, 54, 55, 56, 57, 58, 59, 68, 69, 70, 71, 72, 73, 74, 75] (by decide +kernel) (by decide +kernel)
set_option maxRecDepth 20000 in
theorem gX6_store_X6_stores : GoodIn wsX6_store (wsV RX6 120 RX6 yX6_stores wsX6_stores) := goodIn_app (goodIn_of _ (by decide +kernel)) ggX6_store_X6_stores
set_option maxRecDepth 20000 in
theorem ggX6_store_X6_accepts : GoodIn wsX6_store wsX6_accepts := goodIn_r _ [63, 64, 65, 66, 3, 67, 15, 16, 17, 18, 19, 68, 69, 70, 71, 72, 73, 74, 75] (by decide +kernel) (by decide +kernel)
set_option maxRecDepth 20000 in
theorem gX6_store_X6_accepts : GoodIn wsX6_store (wsV RX6 106 RX6 yX6_accepts wsX6_accepts) := goodIn_app (goodIn_of _ (by decide +kernel)) ggX6_store_X6_accepts
theorem dX6_store_0 : decode cX6_store 0 = .ok (.iload_n 1, 1) := by decide +kernel
theorem dX6_store_1 : decode cX6_store 1 = .ok (.invokestatic 113, 3) := by decide +kernel
theorem dX6_store_4 : decode cX6_store 4 = .ok (.ifCond .eq 35, 3) := by decide +kernel
theorem dX6_store_7 : decode cX6_store 7 = .ok (.iload_n 2, 1) := by decide +kernel
theorem dX6_store_8 : decode cX6_store 8 = .ok (.invokestatic 113, 3) := by decide +kernel
theorem dX6_store_11 : decode cX6_store 11 = .ok (.ifCond .eq 28, 3) := by decide +kernel
theorem dX6_store_14 : decode cX6_store 14 = .ok (.iload_n 3, 1) := by decide +kernel
theorem dX6_store_15 : decode cX6_store 15 = .ok (.invokestatic 96, 3) := by decide +kernel
theorem dX6_store_18 : decode cX6_store 18 = .ok (.ifCond .eq 21, 3) := by decide +kernel
theorem dX6_store_21 : decode cX6_store 21 = .ok (.aload_n 0, 1) := by decide +kernel
theorem dX6_store_22 : decode cX6_store 22 = .ok (.aload_n 0, 1) := by decide +kernel
theorem dX6_store_23 : decode cX6_store 23 = .ok (.aload_n 0, 1) := by decide +kernel
theorem dX6_store_24 : decode cX6_store 24 = .ok (.invokevirtual 99, 3) := by decide +kernel
theorem dX6_store_27 : decode cX6_store 27 = .ok (.iload_n 1, 1) := by decide +kernel
theorem dX6_store_28 : decode cX6_store 28 = .ok (.iload_n 2, 1) := by decide +kernel
theorem dX6_store_29 : decode cX6_store 29 = .ok (.iload_n 3, 1) := by decide +kernel
theorem dX6_store_30 : decode cX6_store 30 = .ok (.invokevirtual 120, 3) := by decide +kernel
theorem dX6_store_33 : decode cX6_store 33 = .ok (.invokevirtual 106, 3) := by decide +kernel
theorem dX6_store_36 : decode cX6_store 36 = .ok (.goto 4, 3) := by decide +kernel
theorem dX6_store_39 : decode cX6_store 39 = .ok (.iconst (-1), 1) := by decide +kernel
theorem dX6_store_40 : decode cX6_store 40 = .ok (.ireturn, 1) := by decide +kernel
set_option maxRecDepth 20000 in
theorem ggX6_storeByte_X6_isOne : GoodIn wsX6_storeByte wsX6_isOne := goodIn_r _ [4, 5, 6, 3, 7] (by decide +kernel) (by decide +kernel)
set_option maxRecDepth 20000 in
theorem gX6_storeByte_X6_isOne : GoodIn wsX6_storeByte (va_wsS RX6 113 yX6_isOne wsX6_isOne) := goodIn_app (goodIn_of _ (by decide +kernel)) ggX6_storeByte_X6_isOne
set_option maxRecDepth 20000 in
theorem ggX6_storeByte_X6_isWord : GoodIn wsX6_storeByte wsX6_isWord := goodIn_r _ [10, 5, 6, 3, 7] (by decide +kernel) (by decide +kernel)
set_option maxRecDepth 20000 in
theorem gX6_storeByte_X6_isWord : GoodIn wsX6_storeByte (va_wsS RX6 96 yX6_isWord wsX6_isWord) := goodIn_app (goodIn_of _ (by decide +kernel)) ggX6_storeByte_X6_isWord
set_option maxRecDepth 20000 in
theorem ggX6_storeByte_X6_in : GoodIn wsX6_storeByte wsX6_in := goodIn_r _ [7] (by decide +kernel) (by decide +kernel)
set_option maxRecDepth 20000 in
theorem gX6_storeByte_X6_in : GoodIn wsX6_storeByte (va_wsS RX6 22 yX6_in wsX6_in) := goodIn_app (goodIn_of _ (by decide +kernel)) ggX6_storeByte_X6_in
set_option maxRecDepth 20000 in
theorem ggX6_storeByte_X6_begins : GoodIn wsX6_storeByte wsX6_begins := goodIn_r _ [14, 15, 16, 17, 3, 18, 19, 76, 77, 78, 79, 80, 81, 82, 83] (by decide +kernel) (by decide +kernel)
set_option maxRecDepth 20000 in
theorem gX6_storeByte_X6_begins : GoodIn wsX6_storeByte (wsV RX6 99 RX6 yX6_begins wsX6_begins) := goodIn_app (goodIn_of _ (by decide +kernel)) ggX6_storeByte_X6_begins
set_option maxRecDepth 20000 in
theorem ggX6_storeByte_X6_storesByte : GoodIn wsX6_storeByte wsX6_storesByte := goodIn_r _ [23, 19, 24, 25, 26, 3, 27, 28, 29, 30, 31, 32, 33, 34, 35, 36, 37, 38, 39, 40, 41, 42, 43, 44, 45, 46, 47, 48, 49, 50, 51, 52, 53, 54, 55, 56, 57, 58, 59, 60, 61, 62, 63, 64, 65, 66, 67, 76, 77, 78, 79, 80, 81, 82, 83] (by decide +kernel) (by decide +kernel)
set_option maxRecDepth 20000 in
theorem gX6_storeByte_X6_storesByte : GoodIn wsX6_storeByte (wsV RX6 123 RX6 yX6_storesByte wsX6_storesByte) := goodIn_app (goodIn_of _ (by decide +kernel)) ggX6_storeByte_X6_storesByte
set_option maxRecDepth 20000 in
theorem ggX6_storeByte_X6_accepts : GoodIn wsX6_storeByte wsX6_accepts := goodIn_r _ [71, 72, 73, 74, 3, 75, 15, 16, 17, 18, 19, 76, 77, 78, 79, 80, 81, 82, 83] (by decide +kernel) (by decide +kernel)
set_option maxRecDepth 20000 in
theorem gX6_storeByte_X6_accepts : GoodIn wsX6_storeByte (wsV RX6 106 RX6 yX6_accepts wsX6_accepts) := goodIn_app (goodIn_of _ (by decide +kernel)) ggX6_storeByte_X6_accepts
theorem dX6_storeByte_0 : decode cX6_storeByte 0 = .ok (.iload_n 1, 1) := by decide +kernel
theorem dX6_storeByte_1 : decode cX6_storeByte 1 = .ok (.invokestatic 113, 3) := by decide +kernel
theorem dX6_storeByte_4 : decode cX6_storeByte 4 = .ok (.ifCond .eq 17, 3) := by decide +kernel
theorem dX6_storeByte_7 : decode cX6_storeByte 7 = .ok (.iload_n 2, 1) := by decide +kernel
theorem dX6_storeByte_8 : decode cX6_storeByte 8 = .ok (.invokestatic 113, 3) := by decide +kernel
theorem dX6_storeByte_11 : decode cX6_storeByte 11 = .ok (.ifCond .eq 10, 3) := by decide +kernel
theorem dX6_storeByte_14 : decode cX6_storeByte 14 = .ok (.iload_n 3, 1) := by decide +kernel
theorem dX6_storeByte_15 : decode cX6_storeByte 15 = .ok (.invokestatic 96, 3) := by decide +kernel
theorem dX6_storeByte_18 : decode cX6_storeByte 18 = .ok (.ifCond .ne 5, 3) := by decide +kernel
theorem dX6_storeByte_21 : decode cX6_storeByte 21 = .ok (.iconst (-1), 1) := by decide +kernel
theorem dX6_storeByte_22 : decode cX6_storeByte 22 = .ok (.ireturn, 1) := by decide +kernel
theorem dX6_storeByte_23 : decode cX6_storeByte 23 = .ok (.iload 4, 2) := by decide +kernel
theorem dX6_storeByte_25 : decode cX6_storeByte 25 = .ok (.iconst 0, 1) := by decide +kernel
theorem dX6_storeByte_26 : decode cX6_storeByte 26 = .ok (.iconst 1, 1) := by decide +kernel
theorem dX6_storeByte_27 : decode cX6_storeByte 27 = .ok (.invokestatic 22, 3) := by decide +kernel
theorem dX6_storeByte_30 : decode cX6_storeByte 30 = .ok (.ifCond .eq 23, 3) := by decide +kernel
theorem dX6_storeByte_33 : decode cX6_storeByte 33 = .ok (.aload_n 0, 1) := by decide +kernel
theorem dX6_storeByte_34 : decode cX6_storeByte 34 = .ok (.aload_n 0, 1) := by decide +kernel
theorem dX6_storeByte_35 : decode cX6_storeByte 35 = .ok (.aload_n 0, 1) := by decide +kernel
theorem dX6_storeByte_36 : decode cX6_storeByte 36 = .ok (.invokevirtual 99, 3) := by decide +kernel
theorem dX6_storeByte_39 : decode cX6_storeByte 39 = .ok (.iload_n 1, 1) := by decide +kernel
theorem dX6_storeByte_40 : decode cX6_storeByte 40 = .ok (.iload_n 2, 1) := by decide +kernel
theorem dX6_storeByte_41 : decode cX6_storeByte 41 = .ok (.iload_n 3, 1) := by decide +kernel
theorem dX6_storeByte_42 : decode cX6_storeByte 42 = .ok (.iload 4, 2) := by decide +kernel
theorem dX6_storeByte_44 : decode cX6_storeByte 44 = .ok (.invokevirtual 123, 3) := by decide +kernel
theorem dX6_storeByte_47 : decode cX6_storeByte 47 = .ok (.invokevirtual 106, 3) := by decide +kernel
theorem dX6_storeByte_50 : decode cX6_storeByte 50 = .ok (.goto 5, 3) := by decide +kernel
theorem dX6_storeByte_53 : decode cX6_storeByte 53 = .ok (.bipush (-2), 2) := by decide +kernel
theorem dX6_storeByte_55 : decode cX6_storeByte 55 = .ok (.ireturn, 1) := by decide +kernel
set_option maxRecDepth 20000 in
theorem ggX6_move_X6_isOne : GoodIn wsX6_move wsX6_isOne := goodIn_r _ [4, 5, 6, 3, 7] (by decide +kernel) (by decide +kernel)
set_option maxRecDepth 20000 in
theorem gX6_move_X6_isOne : GoodIn wsX6_move (va_wsS RX6 113 yX6_isOne wsX6_isOne) := goodIn_app (goodIn_of _ (by decide +kernel)) ggX6_move_X6_isOne
set_option maxRecDepth 20000 in
theorem ggX6_move_X6_begins : GoodIn wsX6_move wsX6_begins := goodIn_r _ [11, 12, 13, 14, 3, 15, 16, 47, 48, 49, 50, 51, 52, 53, 54] (by decide +kernel) (by decide +kernel)
set_option maxRecDepth 20000 in
theorem gX6_move_X6_begins : GoodIn wsX6_move (wsV RX6 99 RX6 yX6_begins wsX6_begins) := goodIn_app (goodIn_of _ (by decide +kernel)) ggX6_move_X6_begins
set_option maxRecDepth 20000 in
theorem ggX6_move_X6_moves : GoodIn wsX6_move wsX6_moves := goodIn_r _ [20, 16, 21, 22, 23, 3, 24, 25, 26, 27, 28, 29, 30, 31, 32, 33, 34, 35, 36, 37, 38, 47, 48, 49, 50, 51, 52, 53, 54] (by decide +kernel) (by decide +kernel)
set_option maxRecDepth 20000 in
theorem gX6_move_X6_moves : GoodIn wsX6_move (wsV RX6 126 RX6 yX6_moves wsX6_moves) := goodIn_app (goodIn_of _ (by decide +kernel)) ggX6_move_X6_moves
set_option maxRecDepth 20000 in
theorem ggX6_move_X6_accepts : GoodIn wsX6_move wsX6_accepts := goodIn_r _ [42, 43, 44, 45, 3, 46, 12, 13, 14, 15, 16, 47, 48, 49, 50, 51, 52, 53, 54] (by decide +kernel) (by decide +kernel)
set_option maxRecDepth 20000 in
theorem gX6_move_X6_accepts : GoodIn wsX6_move (wsV RX6 106 RX6 yX6_accepts wsX6_accepts) := goodIn_app (goodIn_of _ (by decide +kernel)) ggX6_move_X6_accepts
theorem dX6_move_0 : decode cX6_move 0 = .ok (.iload_n 1, 1) := by decide +kernel
theorem dX6_move_1 : decode cX6_move 1 = .ok (.invokestatic 113, 3) := by decide +kernel
theorem dX6_move_4 : decode cX6_move 4 = .ok (.ifCond .eq 35, 3) := by decide +kernel
theorem dX6_move_7 : decode cX6_move 7 = .ok (.iload_n 2, 1) := by decide +kernel
theorem dX6_move_8 : decode cX6_move 8 = .ok (.invokestatic 113, 3) := by decide +kernel
theorem dX6_move_11 : decode cX6_move 11 = .ok (.ifCond .eq 28, 3) := by decide +kernel
theorem dX6_move_14 : decode cX6_move 14 = .ok (.iload_n 3, 1) := by decide +kernel
theorem dX6_move_15 : decode cX6_move 15 = .ok (.invokestatic 113, 3) := by decide +kernel
theorem dX6_move_18 : decode cX6_move 18 = .ok (.ifCond .eq 21, 3) := by decide +kernel
theorem dX6_move_21 : decode cX6_move 21 = .ok (.aload_n 0, 1) := by decide +kernel
theorem dX6_move_22 : decode cX6_move 22 = .ok (.aload_n 0, 1) := by decide +kernel
theorem dX6_move_23 : decode cX6_move 23 = .ok (.aload_n 0, 1) := by decide +kernel
theorem dX6_move_24 : decode cX6_move 24 = .ok (.invokevirtual 99, 3) := by decide +kernel
theorem dX6_move_27 : decode cX6_move 27 = .ok (.iload_n 1, 1) := by decide +kernel
theorem dX6_move_28 : decode cX6_move 28 = .ok (.iload_n 2, 1) := by decide +kernel
theorem dX6_move_29 : decode cX6_move 29 = .ok (.iload_n 3, 1) := by decide +kernel
theorem dX6_move_30 : decode cX6_move 30 = .ok (.invokevirtual 126, 3) := by decide +kernel
theorem dX6_move_33 : decode cX6_move 33 = .ok (.invokevirtual 106, 3) := by decide +kernel
theorem dX6_move_36 : decode cX6_move 36 = .ok (.goto 4, 3) := by decide +kernel
theorem dX6_move_39 : decode cX6_move 39 = .ok (.iconst (-1), 1) := by decide +kernel
theorem dX6_move_40 : decode cX6_move 40 = .ok (.ireturn, 1) := by decide +kernel
set_option maxRecDepth 20000 in
theorem ggX6_compute_X6_isOne : GoodIn wsX6_compute wsX6_isOne := goodIn_r _ [4, 5, 6, 3, 7] (by decide +kernel) (by decide +kernel)
set_option maxRecDepth 20000 in
theorem gX6_compute_X6_isOne : GoodIn wsX6_compute (va_wsS RX6 113 yX6_isOne wsX6_isOne) := goodIn_app (goodIn_of _ (by decide +kernel)) ggX6_compute_X6_isOne
set_option maxRecDepth 20000 in
theorem ggX6_compute_X6_in : GoodIn wsX6_compute wsX6_in := goodIn_r _ [7] (by decide +kernel) (by decide +kernel)
set_option maxRecDepth 20000 in
theorem gX6_compute_X6_in : GoodIn wsX6_compute (va_wsS RX6 22 yX6_in wsX6_in) := goodIn_app (goodIn_of _ (by decide +kernel)) ggX6_compute_X6_in
set_option maxRecDepth 20000 in
theorem ggX6_compute_X6_begins : GoodIn wsX6_compute wsX6_begins := goodIn_r _ [11, 12, 13, 14, 3, 15, 16, 56, 57, 58, 59, 60, 61, 62, 63] (by decide +kernel) (by decide +kernel)
set_option maxRecDepth 20000 in
theorem gX6_compute_X6_begins : GoodIn wsX6_compute (wsV RX6 99 RX6 yX6_begins wsX6_begins) := goodIn_app (goodIn_of _ (by decide +kernel)) ggX6_compute_X6_begins
set_option maxRecDepth 20000 in
theorem ggX6_compute_X6_computes : GoodIn wsX6_compute wsX6_computes := goodIn_r _ [20, 16, 21, 22, 23, 3, 24, 25, 26, 27, 28, 29, 30, 31, 32, 33, 34, 35, 36, 37, 38, 39, 40, 41, 42, 43, 44, 45, 46, 47, 56, 57, 58, 59, 60, 61, 62, 63] (by decide +kernel) (by decide +kernel)
set_option maxRecDepth 20000 in
theorem gX6_compute_X6_computes : GoodIn wsX6_compute (wsV RX6 129 RX6 yX6_computes wsX6_computes) := goodIn_app (goodIn_of _ (by decide +kernel)) ggX6_compute_X6_computes
set_option maxRecDepth 20000 in
theorem ggX6_compute_X6_accepts : GoodIn wsX6_compute wsX6_accepts := goodIn_r _ [51, 52, 53, 54, 3, 55, 12, 13, 14, 15, 16, 56, 57, 58, 59, 60, 61, 62, 63] (by decide +kernel) (by decide +kernel)
set_option maxRecDepth 20000 in
theorem gX6_compute_X6_accepts : GoodIn wsX6_compute (wsV RX6 106 RX6 yX6_accepts wsX6_accepts) := goodIn_app (goodIn_of _ (by decide +kernel)) ggX6_compute_X6_accepts
theorem dX6_compute_0 : decode cX6_compute 0 = .ok (.iload_n 1, 1) := by decide +kernel
theorem dX6_compute_1 : decode cX6_compute 1 = .ok (.invokestatic 113, 3) := by decide +kernel
theorem dX6_compute_4 : decode cX6_compute 4 = .ok (.ifCond .eq 26, 3) := by decide +kernel
theorem dX6_compute_7 : decode cX6_compute 7 = .ok (.iload_n 3, 1) := by decide +kernel
theorem dX6_compute_8 : decode cX6_compute 8 = .ok (.invokestatic 113, 3) := by decide +kernel
theorem dX6_compute_11 : decode cX6_compute 11 = .ok (.ifCond .eq 19, 3) := by decide +kernel
theorem dX6_compute_14 : decode cX6_compute 14 = .ok (.iload 4, 2) := by decide +kernel
theorem dX6_compute_16 : decode cX6_compute 16 = .ok (.invokestatic 113, 3) := by decide +kernel
theorem dX6_compute_19 : decode cX6_compute 19 = .ok (.ifCond .eq 11, 3) := by decide +kernel
theorem dX6_compute_22 : decode cX6_compute 22 = .ok (.iload 5, 2) := by decide +kernel
theorem dX6_compute_24 : decode cX6_compute 24 = .ok (.invokestatic 113, 3) := by decide +kernel
theorem dX6_compute_27 : decode cX6_compute 27 = .ok (.ifCond .ne 5, 3) := by decide +kernel
theorem dX6_compute_30 : decode cX6_compute 30 = .ok (.iconst (-1), 1) := by decide +kernel
theorem dX6_compute_31 : decode cX6_compute 31 = .ok (.ireturn, 1) := by decide +kernel
theorem dX6_compute_32 : decode cX6_compute 32 = .ok (.iload_n 2, 1) := by decide +kernel
theorem dX6_compute_33 : decode cX6_compute 33 = .ok (.iconst 0, 1) := by decide +kernel
theorem dX6_compute_34 : decode cX6_compute 34 = .ok (.iconst 3, 1) := by decide +kernel
theorem dX6_compute_35 : decode cX6_compute 35 = .ok (.invokestatic 22, 3) := by decide +kernel
theorem dX6_compute_38 : decode cX6_compute 38 = .ok (.ifCond .eq 25, 3) := by decide +kernel
theorem dX6_compute_41 : decode cX6_compute 41 = .ok (.aload_n 0, 1) := by decide +kernel
theorem dX6_compute_42 : decode cX6_compute 42 = .ok (.aload_n 0, 1) := by decide +kernel
theorem dX6_compute_43 : decode cX6_compute 43 = .ok (.aload_n 0, 1) := by decide +kernel
theorem dX6_compute_44 : decode cX6_compute 44 = .ok (.invokevirtual 99, 3) := by decide +kernel
theorem dX6_compute_47 : decode cX6_compute 47 = .ok (.iload_n 1, 1) := by decide +kernel
theorem dX6_compute_48 : decode cX6_compute 48 = .ok (.iload_n 2, 1) := by decide +kernel
theorem dX6_compute_49 : decode cX6_compute 49 = .ok (.iload_n 3, 1) := by decide +kernel
theorem dX6_compute_50 : decode cX6_compute 50 = .ok (.iload 4, 2) := by decide +kernel
theorem dX6_compute_52 : decode cX6_compute 52 = .ok (.iload 5, 2) := by decide +kernel
theorem dX6_compute_54 : decode cX6_compute 54 = .ok (.invokevirtual 129, 3) := by decide +kernel
theorem dX6_compute_57 : decode cX6_compute 57 = .ok (.invokevirtual 106, 3) := by decide +kernel
theorem dX6_compute_60 : decode cX6_compute 60 = .ok (.goto 5, 3) := by decide +kernel
theorem dX6_compute_63 : decode cX6_compute 63 = .ok (.bipush (-2), 2) := by decide +kernel
theorem dX6_compute_65 : decode cX6_compute 65 = .ok (.ireturn, 1) := by decide +kernel
set_option maxRecDepth 20000 in
theorem ggX6_loadAt_X6_isOne : GoodIn wsX6_loadAt wsX6_isOne := goodIn_r _ [4, 5, 6, 3, 7] (by decide +kernel) (by decide +kernel)
set_option maxRecDepth 20000 in
theorem gX6_loadAt_X6_isOne : GoodIn wsX6_loadAt (va_wsS RX6 113 yX6_isOne wsX6_isOne) := goodIn_app (goodIn_of _ (by decide +kernel)) ggX6_loadAt_X6_isOne
set_option maxRecDepth 20000 in
theorem ggX6_loadAt_X6_begins : GoodIn wsX6_loadAt wsX6_begins := goodIn_r _ [11, 12, 13, 14, 3, 15, 16, 81, 82, 83, 84, 85, 86, 87, 88] (by decide +kernel) (by decide +kernel)
set_option maxRecDepth 20000 in
theorem gX6_loadAt_X6_begins : GoodIn wsX6_loadAt (wsV RX6 99 RX6 yX6_begins wsX6_begins) := goodIn_app (goodIn_of _ (by decide +kernel)) ggX6_loadAt_X6_begins
set_option maxRecDepth 20000 in
theorem ggX6_loadAt_X6_loadsAt : GoodIn wsX6_loadAt wsX6_loadsAt := goodIn_r _ [20, 16, 21, 22, 23, 3, 24, 25, 26, 27, 28, 29, 30, 31, 32, 33, 34, 35, 36, 37, 38, 39, 40, 41, 42, 43, 44, 45, 46, 47, 48, 49, 50, 51, 52, 53, 54, 55, 56, 57, 58, 59, 60, 61, 62, 63, 64, 65, 66, 67, 68, 69, 70, 71, 72, 81, 82, 83, 84, 85, 86, 87, 88] (by decide +kernel) (by decide +kernel)
set_option maxRecDepth 20000 in
theorem gX6_loadAt_X6_loadsAt : GoodIn wsX6_loadAt (wsV RX6 133 RX6 yX6_loadsAt wsX6_loadsAt) := goodIn_app (goodIn_of _ (by decide +kernel)) ggX6_loadAt_X6_loadsAt
set_option maxRecDepth 20000 in
theorem ggX6_loadAt_X6_accepts : GoodIn wsX6_loadAt wsX6_accepts := goodIn_r _ [76, 77, 78, 79, 3, 80, 12, 13, 14, 15, 16, 81, 82, 83, 84, 85, 86, 87, 88] (by decide +kernel) (by decide +kernel)
set_option maxRecDepth 20000 in
theorem gX6_loadAt_X6_accepts : GoodIn wsX6_loadAt (wsV RX6 106 RX6 yX6_accepts wsX6_accepts) := goodIn_app (goodIn_of _ (by decide +kernel)) ggX6_loadAt_X6_accepts
theorem dX6_loadAt_0 : decode cX6_loadAt 0 = .ok (.iload_n 1, 1) := by decide +kernel
theorem dX6_loadAt_1 : decode cX6_loadAt 1 = .ok (.invokestatic 113, 3) := by decide +kernel
theorem dX6_loadAt_4 : decode cX6_loadAt 4 = .ok (.ifCond .eq 35, 3) := by decide +kernel
theorem dX6_loadAt_7 : decode cX6_loadAt 7 = .ok (.iload_n 2, 1) := by decide +kernel
theorem dX6_loadAt_8 : decode cX6_loadAt 8 = .ok (.invokestatic 113, 3) := by decide +kernel
theorem dX6_loadAt_11 : decode cX6_loadAt 11 = .ok (.ifCond .eq 28, 3) := by decide +kernel
theorem dX6_loadAt_14 : decode cX6_loadAt 14 = .ok (.iload_n 3, 1) := by decide +kernel
theorem dX6_loadAt_15 : decode cX6_loadAt 15 = .ok (.invokestatic 113, 3) := by decide +kernel
theorem dX6_loadAt_18 : decode cX6_loadAt 18 = .ok (.ifCond .eq 21, 3) := by decide +kernel
theorem dX6_loadAt_21 : decode cX6_loadAt 21 = .ok (.aload_n 0, 1) := by decide +kernel
theorem dX6_loadAt_22 : decode cX6_loadAt 22 = .ok (.aload_n 0, 1) := by decide +kernel
theorem dX6_loadAt_23 : decode cX6_loadAt 23 = .ok (.aload_n 0, 1) := by decide +kernel
theorem dX6_loadAt_24 : decode cX6_loadAt 24 = .ok (.invokevirtual 99, 3) := by decide +kernel
theorem dX6_loadAt_27 : decode cX6_loadAt 27 = .ok (.iload_n 1, 1) := by decide +kernel
theorem dX6_loadAt_28 : decode cX6_loadAt 28 = .ok (.iload_n 2, 1) := by decide +kernel
theorem dX6_loadAt_29 : decode cX6_loadAt 29 = .ok (.iload_n 3, 1) := by decide +kernel
theorem dX6_loadAt_30 : decode cX6_loadAt 30 = .ok (.invokevirtual 133, 3) := by decide +kernel
theorem dX6_loadAt_33 : decode cX6_loadAt 33 = .ok (.invokevirtual 106, 3) := by decide +kernel
theorem dX6_loadAt_36 : decode cX6_loadAt 36 = .ok (.goto 4, 3) := by decide +kernel
theorem dX6_loadAt_39 : decode cX6_loadAt 39 = .ok (.iconst (-1), 1) := by decide +kernel
theorem dX6_loadAt_40 : decode cX6_loadAt 40 = .ok (.ireturn, 1) := by decide +kernel
set_option maxRecDepth 20000 in
theorem ggX6_output_X6_isOne : GoodIn wsX6_output wsX6_isOne := goodIn_r _ [4, 5, 6, 3, 7] (by decide +kernel) (by decide +kernel)
set_option maxRecDepth 20000 in
theorem gX6_output_X6_isOne : GoodIn wsX6_output (va_wsS RX6 113 yX6_isOne wsX6_isOne) := goodIn_app (goodIn_of _ (by decide +kernel)) ggX6_output_X6_isOne
set_option maxRecDepth 20000 in
theorem ggX6_output_X6_begins : GoodIn wsX6_output wsX6_begins := goodIn_r _ [11, 12, 13, 14, 3, 15, 16, 52, 53, 54, 55, 56, 57, 58, 59] (by decide +kernel) (by decide +kernel)
set_option maxRecDepth 20000 in
theorem gX6_output_X6_begins : GoodIn wsX6_output (wsV RX6 99 RX6 yX6_begins wsX6_begins) := goodIn_app (goodIn_of _ (by decide +kernel)) ggX6_output_X6_begins
set_option maxRecDepth 20000 in
theorem ggX6_output_X6_outputs : GoodIn wsX6_output wsX6_outputs := goodIn_r _ [20, 16, 21, 22, 23, 3, 24, 25, 26, 27, 28, 29, 30, 31, 32, 33, 34, 35, 36, 37, 38, 39, 40, 41, 42, 43, 52, 53, 54, 55, 56, 57, 58, 59] (by decide +kernel) (by decide +kernel)
set_option maxRecDepth 20000 in
theorem gX6_output_X6_outputs : GoodIn wsX6_output (wsV RX6 136 RX6 yX6_outputs wsX6_outputs) := goodIn_app (goodIn_of _ (by decide +kernel)) ggX6_output_X6_outputs
set_option maxRecDepth 20000 in
theorem ggX6_output_X6_accepts : GoodIn wsX6_output wsX6_accepts := goodIn_r _ [47, 48, 49, 50, 3, 51, 12, 13, 14, 15, 16, 52, 53, 54, 55, 56, 57, 58, 59] (by decide +kernel) (by decide +kernel)
set_option maxRecDepth 20000 in
theorem gX6_output_X6_accepts : GoodIn wsX6_output (wsV RX6 106 RX6 yX6_accepts wsX6_accepts) := goodIn_app (goodIn_of _ (by decide +kernel)) ggX6_output_X6_accepts
theorem dX6_output_0 : decode cX6_output 0 = .ok (.iload_n 1, 1) := by decide +kernel
theorem dX6_output_1 : decode cX6_output 1 = .ok (.invokestatic 113, 3) := by decide +kernel
theorem dX6_output_4 : decode cX6_output 4 = .ok (.ifCond .eq 27, 3) := by decide +kernel
theorem dX6_output_7 : decode cX6_output 7 = .ok (.iload_n 2, 1) := by decide +kernel
theorem dX6_output_8 : decode cX6_output 8 = .ok (.invokestatic 113, 3) := by decide +kernel
theorem dX6_output_11 : decode cX6_output 11 = .ok (.ifCond .eq 20, 3) := by decide +kernel
theorem dX6_output_14 : decode cX6_output 14 = .ok (.aload_n 0, 1) := by decide +kernel
theorem dX6_output_15 : decode cX6_output 15 = .ok (.aload_n 0, 1) := by decide +kernel
theorem dX6_output_16 : decode cX6_output 16 = .ok (.aload_n 0, 1) := by decide +kernel
theorem dX6_output_17 : decode cX6_output 17 = .ok (.invokevirtual 99, 3) := by decide +kernel
theorem dX6_output_20 : decode cX6_output 20 = .ok (.iload_n 1, 1) := by decide +kernel
theorem dX6_output_21 : decode cX6_output 21 = .ok (.iload_n 2, 1) := by decide +kernel
theorem dX6_output_22 : decode cX6_output 22 = .ok (.invokevirtual 136, 3) := by decide +kernel
theorem dX6_output_25 : decode cX6_output 25 = .ok (.invokevirtual 106, 3) := by decide +kernel
theorem dX6_output_28 : decode cX6_output 28 = .ok (.goto 4, 3) := by decide +kernel
theorem dX6_output_31 : decode cX6_output 31 = .ok (.iconst (-1), 1) := by decide +kernel
theorem dX6_output_32 : decode cX6_output 32 = .ok (.ireturn, 1) := by decide +kernel
set_option maxRecDepth 20000 in
theorem ggX6_append_X6_in : GoodIn wsX6_append wsX6_in := goodIn_r _ [6] (by decide +kernel) (by decide +kernel)
set_option maxRecDepth 20000 in
theorem gX6_append_X6_in : GoodIn wsX6_append (va_wsS RX6 22 yX6_in wsX6_in) := goodIn_app (goodIn_of _ (by decide +kernel)) ggX6_append_X6_in
theorem dX6_append_0 : decode cX6_append 0 = .ok (.iload_n 1, 1) := by decide +kernel
theorem dX6_append_1 : decode cX6_append 1 = .ok (.bipush 32, 2) := by decide +kernel
theorem dX6_append_3 : decode cX6_append 3 = .ok (.bipush 126, 2) := by decide +kernel
theorem dX6_append_5 : decode cX6_append 5 = .ok (.invokestatic 22, 3) := by decide +kernel
theorem dX6_append_8 : decode cX6_append 8 = .ok (.ifCond .ne 6, 3) := by decide +kernel
theorem dX6_append_11 : decode cX6_append 11 = .ok (.bipush (-2), 2) := by decide +kernel
theorem dX6_append_13 : decode cX6_append 13 = .ok (.ireturn, 1) := by decide +kernel
theorem dX6_append_14 : decode cX6_append 14 = .ok (.aload_n 0, 1) := by decide +kernel
theorem dX6_append_15 : decode cX6_append 15 = .ok (.getfield 139, 3) := by decide +kernel
theorem dX6_append_18 : decode cX6_append 18 = .ok (.bipush 90, 2) := by decide +kernel
theorem dX6_append_20 : decode cX6_append 20 = .ok (.if_icmp .ne 6, 3) := by decide +kernel
theorem dX6_append_23 : decode cX6_append 23 = .ok (.bipush (-4), 2) := by decide +kernel
theorem dX6_append_25 : decode cX6_append 25 = .ok (.ireturn, 1) := by decide +kernel
theorem dX6_append_26 : decode cX6_append 26 = .ok (.aload_n 0, 1) := by decide +kernel
theorem dX6_append_27 : decode cX6_append 27 = .ok (.getfield 13, 3) := by decide +kernel
theorem dX6_append_30 : decode cX6_append 30 = .ok (.aload_n 0, 1) := by decide +kernel
theorem dX6_append_31 : decode cX6_append 31 = .ok (.getfield 139, 3) := by decide +kernel
theorem dX6_append_34 : decode cX6_append 34 = .ok (.iload_n 1, 1) := by decide +kernel
theorem dX6_append_35 : decode cX6_append 35 = .ok (.iastore, 1) := by decide +kernel
theorem dX6_append_36 : decode cX6_append 36 = .ok (.aload_n 0, 1) := by decide +kernel
theorem dX6_append_37 : decode cX6_append 37 = .ok (.dup, 1) := by decide +kernel
theorem dX6_append_38 : decode cX6_append 38 = .ok (.getfield 139, 3) := by decide +kernel
theorem dX6_append_41 : decode cX6_append 41 = .ok (.iconst 1, 1) := by decide +kernel
theorem dX6_append_42 : decode cX6_append 42 = .ok (.iadd, 1) := by decide +kernel
theorem dX6_append_43 : decode cX6_append 43 = .ok (.putfield 139, 3) := by decide +kernel
theorem dX6_append_46 : decode cX6_append 46 = .ok (.aload_n 0, 1) := by decide +kernel
theorem dX6_append_47 : decode cX6_append 47 = .ok (.getfield 139, 3) := by decide +kernel
theorem dX6_append_50 : decode cX6_append 50 = .ok (.ireturn, 1) := by decide +kernel
theorem dX6_clearText_0 : decode cX6_clearText 0 = .ok (.aload_n 0, 1) := by decide +kernel
theorem dX6_clearText_1 : decode cX6_clearText 1 = .ok (.getfield 139, 3) := by decide +kernel
theorem dX6_clearText_4 : decode cX6_clearText 4 = .ok (.istore_n 1, 1) := by decide +kernel
theorem dX6_clearText_5 : decode cX6_clearText 5 = .ok (.aload_n 0, 1) := by decide +kernel
theorem dX6_clearText_6 : decode cX6_clearText 6 = .ok (.iconst 0, 1) := by decide +kernel
theorem dX6_clearText_7 : decode cX6_clearText 7 = .ok (.putfield 139, 3) := by decide +kernel
theorem dX6_clearText_10 : decode cX6_clearText 10 = .ok (.iload_n 1, 1) := by decide +kernel
theorem dX6_clearText_11 : decode cX6_clearText 11 = .ok (.ireturn, 1) := by decide +kernel
theorem dX6_sign_0 : decode cX6_sign 0 = .ok (.aload_n 0, 1) := by decide +kernel
theorem dX6_sign_1 : decode cX6_sign 1 = .ok (.getfield 142, 3) := by decide +kernel
theorem dX6_sign_4 : decode cX6_sign 4 = .ok (.aload_n 0, 1) := by decide +kernel
theorem dX6_sign_5 : decode cX6_sign 5 = .ok (.getfield 139, 3) := by decide +kernel
theorem dX6_sign_8 : decode cX6_sign 8 = .ok (.if_icmp .ge 15, 3) := by decide +kernel
theorem dX6_sign_11 : decode cX6_sign 11 = .ok (.aload_n 0, 1) := by decide +kernel
theorem dX6_sign_12 : decode cX6_sign 12 = .ok (.getfield 13, 3) := by decide +kernel
theorem dX6_sign_15 : decode cX6_sign 15 = .ok (.aload_n 0, 1) := by decide +kernel
theorem dX6_sign_16 : decode cX6_sign 16 = .ok (.getfield 142, 3) := by decide +kernel
theorem dX6_sign_19 : decode cX6_sign 19 = .ok (.iaload, 1) := by decide +kernel
theorem dX6_sign_20 : decode cX6_sign 20 = .ok (.goto 4, 3) := by decide +kernel
theorem dX6_sign_23 : decode cX6_sign 23 = .ok (.iconst 0, 1) := by decide +kernel
theorem dX6_sign_24 : decode cX6_sign 24 = .ok (.ireturn, 1) := by decide +kernel
set_option maxRecDepth 20000 in
theorem ggX6_takes_X6_sign : GoodIn wsX6_takes wsX6_sign := goodIn_r _ [6, 1, 7, 8, 9, 10, 11, 12, 13, 14, 15, 16] (by decide +kernel) (by decide +kernel)
set_option maxRecDepth 20000 in
theorem gX6_takes_X6_sign : GoodIn wsX6_takes (wsV RX6 145 RX6 yX6_sign wsX6_sign) := goodIn_app (goodIn_of _ (by decide +kernel)) ggX6_takes_X6_sign
theorem dX6_takes_0 : decode cX6_takes 0 = .ok (.aload_n 0, 1) := by decide +kernel
theorem dX6_takes_1 : decode cX6_takes 1 = .ok (.invokevirtual 145, 3) := by decide +kernel
theorem dX6_takes_4 : decode cX6_takes 4 = .ok (.iload_n 1, 1) := by decide +kernel
theorem dX6_takes_5 : decode cX6_takes 5 = .ok (.if_icmp .ne 7, 3) := by decide +kernel
theorem dX6_takes_8 : decode cX6_takes 8 = .ok (.iconst 1, 1) := by decide +kernel
theorem dX6_takes_9 : decode cX6_takes 9 = .ok (.goto 4, 3) := by decide +kernel
theorem dX6_takes_12 : decode cX6_takes 12 = .ok (.iconst 0, 1) := by decide +kernel
theorem dX6_takes_13 : decode cX6_takes 13 = .ok (.istore_n 2, 1) := by decide +kernel
theorem dX6_takes_14 : decode cX6_takes 14 = .ok (.aload_n 0, 1) := by decide +kernel
theorem dX6_takes_15 : decode cX6_takes 15 = .ok (.dup, 1) := by decide +kernel
theorem dX6_takes_16 : decode cX6_takes 16 = .ok (.getfield 142, 3) := by decide +kernel
theorem dX6_takes_19 : decode cX6_takes 19 = .ok (.iload_n 2, 1) := by decide +kernel
theorem dX6_takes_20 : decode cX6_takes 20 = .ok (.ifCond .eq 7, 3) := by decide +kernel
theorem dX6_takes_23 : decode cX6_takes 23 = .ok (.iconst 1, 1) := by decide +kernel
theorem dX6_takes_24 : decode cX6_takes 24 = .ok (.goto 4, 3) := by decide +kernel
theorem dX6_takes_27 : decode cX6_takes 27 = .ok (.iconst 0, 1) := by decide +kernel
theorem dX6_takes_28 : decode cX6_takes 28 = .ok (.iadd, 1) := by decide +kernel
theorem dX6_takes_29 : decode cX6_takes 29 = .ok (.putfield 142, 3) := by decide +kernel
theorem dX6_takes_32 : decode cX6_takes 32 = .ok (.iload_n 2, 1) := by decide +kernel
theorem dX6_takes_33 : decode cX6_takes 33 = .ok (.ireturn, 1) := by decide +kernel
set_option maxRecDepth 20000 in
theorem ggX6_readsDigits_X6_sign : GoodIn wsX6_readsDigits wsX6_sign := goodIn_r _ [7, 2, 8, 9, 13, 14, 15, 16, 17, 18, 19, 20] (by decide +kernel) (by decide +kernel)
set_option maxRecDepth 20000 in
theorem gX6_readsDigits_X6_sign : GoodIn wsX6_readsDigits (wsV RX6 145 RX6 yX6_sign wsX6_sign) := goodIn_app (goodIn_of _ (by decide +kernel)) ggX6_readsDigits_X6_sign
set_option maxRecDepth 20000 in
theorem ggX6_readsDigits_X6_in : GoodIn wsX6_readsDigits wsX6_in := goodIn_r _ [12] (by decide +kernel) (by decide +kernel)
set_option maxRecDepth 20000 in
theorem gX6_readsDigits_X6_in : GoodIn wsX6_readsDigits (va_wsS RX6 22 yX6_in wsX6_in) := goodIn_app (goodIn_of _ (by decide +kernel)) ggX6_readsDigits_X6_in
theorem dX6_readsDigits_0 : decode cX6_readsDigits 0 = .ok (.iconst 0, 1) := by decide +kernel
theorem dX6_readsDigits_1 : decode cX6_readsDigits 1 = .ok (.istore_n 2, 1) := by decide +kernel
theorem dX6_readsDigits_2 : decode cX6_readsDigits 2 = .ok (.iload_n 2, 1) := by decide +kernel
theorem dX6_readsDigits_3 : decode cX6_readsDigits 3 = .ok (.iload_n 1, 1) := by decide +kernel
theorem dX6_readsDigits_4 : decode cX6_readsDigits 4 = .ok (.if_icmp .ge 48, 3) := by decide +kernel
theorem dX6_readsDigits_7 : decode cX6_readsDigits 7 = .ok (.aload_n 0, 1) := by decide +kernel
theorem dX6_readsDigits_8 : decode cX6_readsDigits 8 = .ok (.invokevirtual 145, 3) := by decide +kernel
theorem dX6_readsDigits_11 : decode cX6_readsDigits 11 = .ok (.bipush 48, 2) := by decide +kernel
theorem dX6_readsDigits_13 : decode cX6_readsDigits 13 = .ok (.bipush 51, 2) := by decide +kernel
theorem dX6_readsDigits_15 : decode cX6_readsDigits 15 = .ok (.invokestatic 22, 3) := by decide +kernel
theorem dX6_readsDigits_18 : decode cX6_readsDigits 18 = .ok (.ifCond .ne 5, 3) := by decide +kernel
theorem dX6_readsDigits_21 : decode cX6_readsDigits 21 = .ok (.iconst 0, 1) := by decide +kernel
theorem dX6_readsDigits_22 : decode cX6_readsDigits 22 = .ok (.ireturn, 1) := by decide +kernel
theorem dX6_readsDigits_23 : decode cX6_readsDigits 23 = .ok (.aload_n 0, 1) := by decide +kernel
theorem dX6_readsDigits_24 : decode cX6_readsDigits 24 = .ok (.getfield 16, 3) := by decide +kernel
theorem dX6_readsDigits_27 : decode cX6_readsDigits 27 = .ok (.iload_n 2, 1) := by decide +kernel
theorem dX6_readsDigits_28 : decode cX6_readsDigits 28 = .ok (.aload_n 0, 1) := by decide +kernel
theorem dX6_readsDigits_29 : decode cX6_readsDigits 29 = .ok (.invokevirtual 145, 3) := by decide +kernel
theorem dX6_readsDigits_32 : decode cX6_readsDigits 32 = .ok (.bipush 48, 2) := by decide +kernel
theorem dX6_readsDigits_34 : decode cX6_readsDigits 34 = .ok (.isub, 1) := by decide +kernel
theorem dX6_readsDigits_35 : decode cX6_readsDigits 35 = .ok (.iastore, 1) := by decide +kernel
theorem dX6_readsDigits_36 : decode cX6_readsDigits 36 = .ok (.aload_n 0, 1) := by decide +kernel
theorem dX6_readsDigits_37 : decode cX6_readsDigits 37 = .ok (.dup, 1) := by decide +kernel
theorem dX6_readsDigits_38 : decode cX6_readsDigits 38 = .ok (.getfield 142, 3) := by decide +kernel
theorem dX6_readsDigits_41 : decode cX6_readsDigits 41 = .ok (.iconst 1, 1) := by decide +kernel
theorem dX6_readsDigits_42 : decode cX6_readsDigits 42 = .ok (.iadd, 1) := by decide +kernel
theorem dX6_readsDigits_43 : decode cX6_readsDigits 43 = .ok (.putfield 142, 3) := by decide +kernel
theorem dX6_readsDigits_46 : decode cX6_readsDigits 46 = .ok (.iinc 2 1, 3) := by decide +kernel
theorem dX6_readsDigits_49 : decode cX6_readsDigits 49 = .ok (.goto (-47), 3) := by decide +kernel
theorem dX6_readsDigits_52 : decode cX6_readsDigits 52 = .ok (.iconst 1, 1) := by decide +kernel
theorem dX6_readsDigits_53 : decode cX6_readsDigits 53 = .ok (.ireturn, 1) := by decide +kernel
set_option maxRecDepth 20000 in
theorem ggX6_readsNumber_X6_sign : GoodIn wsX6_readsNumber wsX6_sign := goodIn_r _ [7, 1, 8, 9, 13, 14, 15, 16, 17, 18, 19, 20] (by decide +kernel) (by decide +kernel)
set_option maxRecDepth 20000 in
theorem gX6_readsNumber_X6_sign : GoodIn wsX6_readsNumber (wsV RX6 145 RX6 yX6_sign wsX6_sign) := goodIn_app (goodIn_of _ (by decide +kernel)) ggX6_readsNumber_X6_sign
set_option maxRecDepth 20000 in
theorem ggX6_readsNumber_X6_in : GoodIn wsX6_readsNumber wsX6_in := goodIn_r _ [12] (by decide +kernel) (by decide +kernel)
set_option maxRecDepth 20000 in
theorem gX6_readsNumber_X6_in : GoodIn wsX6_readsNumber (va_wsS RX6 22 yX6_in wsX6_in) := goodIn_app (goodIn_of _ (by decide +kernel)) ggX6_readsNumber_X6_in
theorem dX6_readsNumber_0 : decode cX6_readsNumber 0 = .ok (.aload_n 0, 1) := by decide +kernel
theorem dX6_readsNumber_1 : decode cX6_readsNumber 1 = .ok (.invokevirtual 145, 3) := by decide +kernel
theorem dX6_readsNumber_4 : decode cX6_readsNumber 4 = .ok (.bipush 48, 2) := by decide +kernel
theorem dX6_readsNumber_6 : decode cX6_readsNumber 6 = .ok (.bipush 57, 2) := by decide +kernel
theorem dX6_readsNumber_8 : decode cX6_readsNumber 8 = .ok (.invokestatic 22, 3) := by decide +kernel
theorem dX6_readsNumber_11 : decode cX6_readsNumber 11 = .ok (.ifCond .ne 5, 3) := by decide +kernel
theorem dX6_readsNumber_14 : decode cX6_readsNumber 14 = .ok (.iconst 0, 1) := by decide +kernel
theorem dX6_readsNumber_15 : decode cX6_readsNumber 15 = .ok (.ireturn, 1) := by decide +kernel
theorem dX6_readsNumber_16 : decode cX6_readsNumber 16 = .ok (.aload_n 0, 1) := by decide +kernel
theorem dX6_readsNumber_17 : decode cX6_readsNumber 17 = .ok (.invokevirtual 145, 3) := by decide +kernel
theorem dX6_readsNumber_20 : decode cX6_readsNumber 20 = .ok (.bipush 48, 2) := by decide +kernel
theorem dX6_readsNumber_22 : decode cX6_readsNumber 22 = .ok (.isub, 1) := by decide +kernel
theorem dX6_readsNumber_23 : decode cX6_readsNumber 23 = .ok (.istore_n 3, 1) := by decide +kernel
theorem dX6_readsNumber_24 : decode cX6_readsNumber 24 = .ok (.aload_n 0, 1) := by decide +kernel
theorem dX6_readsNumber_25 : decode cX6_readsNumber 25 = .ok (.dup, 1) := by decide +kernel
theorem dX6_readsNumber_26 : decode cX6_readsNumber 26 = .ok (.getfield 142, 3) := by decide +kernel
theorem dX6_readsNumber_29 : decode cX6_readsNumber 29 = .ok (.iconst 1, 1) := by decide +kernel
theorem dX6_readsNumber_30 : decode cX6_readsNumber 30 = .ok (.iadd, 1) := by decide +kernel
theorem dX6_readsNumber_31 : decode cX6_readsNumber 31 = .ok (.putfield 142, 3) := by decide +kernel
theorem dX6_readsNumber_34 : decode cX6_readsNumber 34 = .ok (.iload_n 3, 1) := by decide +kernel
theorem dX6_readsNumber_35 : decode cX6_readsNumber 35 = .ok (.ifCond .le 59, 3) := by decide +kernel
theorem dX6_readsNumber_38 : decode cX6_readsNumber 38 = .ok (.aload_n 0, 1) := by decide +kernel
theorem dX6_readsNumber_39 : decode cX6_readsNumber 39 = .ok (.invokevirtual 145, 3) := by decide +kernel
theorem dX6_readsNumber_42 : decode cX6_readsNumber 42 = .ok (.bipush 48, 2) := by decide +kernel
theorem dX6_readsNumber_44 : decode cX6_readsNumber 44 = .ok (.bipush 57, 2) := by decide +kernel
theorem dX6_readsNumber_46 : decode cX6_readsNumber 46 = .ok (.invokestatic 22, 3) := by decide +kernel
theorem dX6_readsNumber_49 : decode cX6_readsNumber 49 = .ok (.ifCond .eq 45, 3) := by decide +kernel
theorem dX6_readsNumber_52 : decode cX6_readsNumber 52 = .ok (.bipush 10, 2) := by decide +kernel
theorem dX6_readsNumber_54 : decode cX6_readsNumber 54 = .ok (.iload_n 3, 1) := by decide +kernel
theorem dX6_readsNumber_55 : decode cX6_readsNumber 55 = .ok (.imul, 1) := by decide +kernel
theorem dX6_readsNumber_56 : decode cX6_readsNumber 56 = .ok (.aload_n 0, 1) := by decide +kernel
theorem dX6_readsNumber_57 : decode cX6_readsNumber 57 = .ok (.invokevirtual 145, 3) := by decide +kernel
theorem dX6_readsNumber_60 : decode cX6_readsNumber 60 = .ok (.iadd, 1) := by decide +kernel
theorem dX6_readsNumber_61 : decode cX6_readsNumber 61 = .ok (.bipush 48, 2) := by decide +kernel
theorem dX6_readsNumber_63 : decode cX6_readsNumber 63 = .ok (.isub, 1) := by decide +kernel
theorem dX6_readsNumber_64 : decode cX6_readsNumber 64 = .ok (.iload_n 2, 1) := by decide +kernel
theorem dX6_readsNumber_65 : decode cX6_readsNumber 65 = .ok (.if_icmp .gt 29, 3) := by decide +kernel
theorem dX6_readsNumber_68 : decode cX6_readsNumber 68 = .ok (.bipush 10, 2) := by decide +kernel
theorem dX6_readsNumber_70 : decode cX6_readsNumber 70 = .ok (.iload_n 3, 1) := by decide +kernel
theorem dX6_readsNumber_71 : decode cX6_readsNumber 71 = .ok (.imul, 1) := by decide +kernel
theorem dX6_readsNumber_72 : decode cX6_readsNumber 72 = .ok (.aload_n 0, 1) := by decide +kernel
theorem dX6_readsNumber_73 : decode cX6_readsNumber 73 = .ok (.invokevirtual 145, 3) := by decide +kernel
theorem dX6_readsNumber_76 : decode cX6_readsNumber 76 = .ok (.iadd, 1) := by decide +kernel
theorem dX6_readsNumber_77 : decode cX6_readsNumber 77 = .ok (.bipush 48, 2) := by decide +kernel
theorem dX6_readsNumber_79 : decode cX6_readsNumber 79 = .ok (.isub, 1) := by decide +kernel
theorem dX6_readsNumber_80 : decode cX6_readsNumber 80 = .ok (.istore_n 3, 1) := by decide +kernel
theorem dX6_readsNumber_81 : decode cX6_readsNumber 81 = .ok (.aload_n 0, 1) := by decide +kernel
theorem dX6_readsNumber_82 : decode cX6_readsNumber 82 = .ok (.dup, 1) := by decide +kernel
theorem dX6_readsNumber_83 : decode cX6_readsNumber 83 = .ok (.getfield 142, 3) := by decide +kernel
theorem dX6_readsNumber_86 : decode cX6_readsNumber 86 = .ok (.iconst 1, 1) := by decide +kernel
theorem dX6_readsNumber_87 : decode cX6_readsNumber 87 = .ok (.iadd, 1) := by decide +kernel
theorem dX6_readsNumber_88 : decode cX6_readsNumber 88 = .ok (.putfield 142, 3) := by decide +kernel
theorem dX6_readsNumber_91 : decode cX6_readsNumber 91 = .ok (.goto (-57), 3) := by decide +kernel
theorem dX6_readsNumber_94 : decode cX6_readsNumber 94 = .ok (.aload_n 0, 1) := by decide +kernel
theorem dX6_readsNumber_95 : decode cX6_readsNumber 95 = .ok (.getfield 16, 3) := by decide +kernel
theorem dX6_readsNumber_98 : decode cX6_readsNumber 98 = .ok (.iload_n 1, 1) := by decide +kernel
theorem dX6_readsNumber_99 : decode cX6_readsNumber 99 = .ok (.iload_n 3, 1) := by decide +kernel
theorem dX6_readsNumber_100 : decode cX6_readsNumber 100 = .ok (.iastore, 1) := by decide +kernel
theorem dX6_readsNumber_101 : decode cX6_readsNumber 101 = .ok (.iconst 1, 1) := by decide +kernel
theorem dX6_readsNumber_102 : decode cX6_readsNumber 102 = .ok (.ireturn, 1) := by decide +kernel
set_option maxRecDepth 20000 in
theorem ggX6_readsOperation_X6_sign : GoodIn wsX6_readsOperation wsX6_sign := goodIn_r _ [8, 2, 9, 10, 27, 28, 29, 30, 31, 32, 33, 34] (by decide +kernel) (by decide +kernel)
set_option maxRecDepth 20000 in
theorem gX6_readsOperation_X6_sign : GoodIn wsX6_readsOperation (wsV RX6 145 RX6 yX6_sign wsX6_sign) := goodIn_app (goodIn_of _ (by decide +kernel)) ggX6_readsOperation_X6_sign
set_option maxRecDepth 20000 in
theorem ggX6_readsOperation_X6_readsDigits : GoodIn wsX6_readsOperation wsX6_readsDigits := goodIn_r _ [14, 15, 2, 4, 5, 6, 7, 8, 9, 10, 16, 17, 18, 27, 28, 29, 30, 31, 32, 33, 34] (by decide +kernel) (by decide +kernel)
set_option maxRecDepth 20000 in
theorem gX6_readsOperation_X6_readsDigits : GoodIn wsX6_readsOperation (wsV RX6 151 RX6 yX6_readsDigits wsX6_readsDigits) := goodIn_app (goodIn_of _ (by decide +kernel)) ggX6_readsOperation_X6_readsDigits
set_option maxRecDepth 20000 in
theorem ggX6_readsOperation_X6_takes : GoodIn wsX6_readsOperation wsX6_takes := goodIn_r _ [22, 2, 4, 5, 6, 7, 8, 9, 10, 27, 28, 29, 30, 31, 32, 33, 34] (by decide +kernel) (by decide +kernel)
set_option maxRecDepth 20000 in
theorem gX6_readsOperation_X6_takes : GoodIn wsX6_readsOperation (wsV RX6 154 RX6 yX6_takes wsX6_takes) := goodIn_app (goodIn_of _ (by decide +kernel)) ggX6_readsOperation_X6_takes
set_option maxRecDepth 20000 in
theorem ggX6_readsOperation_X6_readsNumber : GoodIn wsX6_readsOperation wsX6_readsNumber := goodIn_r _ [26, 2, 15, 4, 5, 6, 7, 8, 9, 10, 16, 17, 18, 27, 28, 29, 30, 31, 32, 33, 34] (by decide +kernel) (by decide +kernel)
set_option maxRecDepth 20000 in
theorem gX6_readsOperation_X6_readsNumber : GoodIn wsX6_readsOperation (wsV RX6 157 RX6 yX6_readsNumber wsX6_readsNumber) := goodIn_app (goodIn_of _ (by decide +kernel)) ggX6_readsOperation_X6_readsNumber
theorem dX6_readsOperation_0 : decode cX6_readsOperation 0 = .ok (.aload_n 0, 1) := by decide +kernel
theorem dX6_readsOperation_1 : decode cX6_readsOperation 1 = .ok (.aload_n 0, 1) := by decide +kernel
theorem dX6_readsOperation_2 : decode cX6_readsOperation 2 = .ok (.invokevirtual 145, 3) := by decide +kernel
theorem dX6_readsOperation_5 : decode cX6_readsOperation 5 = .ok (.putfield 148, 3) := by decide +kernel
theorem dX6_readsOperation_8 : decode cX6_readsOperation 8 = .ok (.aload_n 0, 1) := by decide +kernel
theorem dX6_readsOperation_9 : decode cX6_readsOperation 9 = .ok (.dup, 1) := by decide +kernel
theorem dX6_readsOperation_10 : decode cX6_readsOperation 10 = .ok (.getfield 142, 3) := by decide +kernel
theorem dX6_readsOperation_13 : decode cX6_readsOperation 13 = .ok (.aload_n 0, 1) := by decide +kernel
theorem dX6_readsOperation_14 : decode cX6_readsOperation 14 = .ok (.getfield 148, 3) := by decide +kernel
theorem dX6_readsOperation_17 : decode cX6_readsOperation 17 = .ok (.ifCond .ne 7, 3) := by decide +kernel
theorem dX6_readsOperation_20 : decode cX6_readsOperation 20 = .ok (.iconst 0, 1) := by decide +kernel
theorem dX6_readsOperation_21 : decode cX6_readsOperation 21 = .ok (.goto 4, 3) := by decide +kernel
theorem dX6_readsOperation_24 : decode cX6_readsOperation 24 = .ok (.iconst 1, 1) := by decide +kernel
theorem dX6_readsOperation_25 : decode cX6_readsOperation 25 = .ok (.iadd, 1) := by decide +kernel
theorem dX6_readsOperation_26 : decode cX6_readsOperation 26 = .ok (.putfield 142, 3) := by decide +kernel
theorem dX6_readsOperation_29 : decode cX6_readsOperation 29 = .ok (.aload_n 0, 1) := by decide +kernel
theorem dX6_readsOperation_30 : decode cX6_readsOperation 30 = .ok (.getfield 148, 3) := by decide +kernel
theorem dX6_readsOperation_33 : decode cX6_readsOperation 33 = .ok (.tableswitch 195 65 86 #[142, 195, 195, 195, 195, 195, 195, 195, 154, 195, 195, 103, 136, 195, 148, 195, 195, 195, 103, 195, 195, 162], 103) := by decide +kernel
theorem dX6_readsOperation_136 : decode cX6_readsOperation 136 = .ok (.aload_n 0, 1) := by decide +kernel
theorem dX6_readsOperation_137 : decode cX6_readsOperation 137 = .ok (.iconst 2, 1) := by decide +kernel
theorem dX6_readsOperation_138 : decode cX6_readsOperation 138 = .ok (.invokevirtual 151, 3) := by decide +kernel
theorem dX6_readsOperation_141 : decode cX6_readsOperation 141 = .ok (.ifCond .eq 26, 3) := by decide +kernel
theorem dX6_readsOperation_144 : decode cX6_readsOperation 144 = .ok (.aload_n 0, 1) := by decide +kernel
theorem dX6_readsOperation_145 : decode cX6_readsOperation 145 = .ok (.bipush 44, 2) := by decide +kernel
theorem dX6_readsOperation_147 : decode cX6_readsOperation 147 = .ok (.invokevirtual 154, 3) := by decide +kernel
theorem dX6_readsOperation_150 : decode cX6_readsOperation 150 = .ok (.ifCond .eq 17, 3) := by decide +kernel
theorem dX6_readsOperation_153 : decode cX6_readsOperation 153 = .ok (.aload_n 0, 1) := by decide +kernel
theorem dX6_readsOperation_154 : decode cX6_readsOperation 154 = .ok (.iconst 2, 1) := by decide +kernel
theorem dX6_readsOperation_155 : decode cX6_readsOperation 155 = .ok (.bipush 31, 2) := by decide +kernel
theorem dX6_readsOperation_157 : decode cX6_readsOperation 157 = .ok (.invokevirtual 157, 3) := by decide +kernel
theorem dX6_readsOperation_160 : decode cX6_readsOperation 160 = .ok (.ifCond .eq 7, 3) := by decide +kernel
theorem dX6_readsOperation_163 : decode cX6_readsOperation 163 = .ok (.iconst 1, 1) := by decide +kernel
theorem dX6_readsOperation_164 : decode cX6_readsOperation 164 = .ok (.goto 4, 3) := by decide +kernel
theorem dX6_readsOperation_167 : decode cX6_readsOperation 167 = .ok (.iconst 0, 1) := by decide +kernel
theorem dX6_readsOperation_168 : decode cX6_readsOperation 168 = .ok (.ireturn, 1) := by decide +kernel
theorem dX6_readsOperation_169 : decode cX6_readsOperation 169 = .ok (.aload_n 0, 1) := by decide +kernel
theorem dX6_readsOperation_170 : decode cX6_readsOperation 170 = .ok (.iconst 3, 1) := by decide +kernel
theorem dX6_readsOperation_171 : decode cX6_readsOperation 171 = .ok (.invokevirtual 151, 3) := by decide +kernel
theorem dX6_readsOperation_174 : decode cX6_readsOperation 174 = .ok (.ireturn, 1) := by decide +kernel
theorem dX6_readsOperation_175 : decode cX6_readsOperation 175 = .ok (.aload_n 0, 1) := by decide +kernel
theorem dX6_readsOperation_176 : decode cX6_readsOperation 176 = .ok (.iconst 5, 1) := by decide +kernel
theorem dX6_readsOperation_177 : decode cX6_readsOperation 177 = .ok (.invokevirtual 151, 3) := by decide +kernel
theorem dX6_readsOperation_180 : decode cX6_readsOperation 180 = .ok (.ireturn, 1) := by decide +kernel
theorem dX6_readsOperation_181 : decode cX6_readsOperation 181 = .ok (.aload_n 0, 1) := by decide +kernel
theorem dX6_readsOperation_182 : decode cX6_readsOperation 182 = .ok (.iconst 2, 1) := by decide +kernel
theorem dX6_readsOperation_183 : decode cX6_readsOperation 183 = .ok (.invokevirtual 151, 3) := by decide +kernel
theorem dX6_readsOperation_186 : decode cX6_readsOperation 186 = .ok (.ireturn, 1) := by decide +kernel
theorem dX6_readsOperation_187 : decode cX6_readsOperation 187 = .ok (.aload_n 0, 1) := by decide +kernel
theorem dX6_readsOperation_188 : decode cX6_readsOperation 188 = .ok (.iconst 0, 1) := by decide +kernel
theorem dX6_readsOperation_189 : decode cX6_readsOperation 189 = .ok (.bipush 31, 2) := by decide +kernel
theorem dX6_readsOperation_191 : decode cX6_readsOperation 191 = .ok (.invokevirtual 157, 3) := by decide +kernel
theorem dX6_readsOperation_194 : decode cX6_readsOperation 194 = .ok (.ireturn, 1) := by decide +kernel
theorem dX6_readsOperation_195 : decode cX6_readsOperation 195 = .ok (.aload_n 0, 1) := by decide +kernel
theorem dX6_readsOperation_196 : decode cX6_readsOperation 196 = .ok (.iconst 2, 1) := by decide +kernel
theorem dX6_readsOperation_197 : decode cX6_readsOperation 197 = .ok (.invokevirtual 151, 3) := by decide +kernel
theorem dX6_readsOperation_200 : decode cX6_readsOperation 200 = .ok (.ifCond .eq 26, 3) := by decide +kernel
theorem dX6_readsOperation_203 : decode cX6_readsOperation 203 = .ok (.aload_n 0, 1) := by decide +kernel
theorem dX6_readsOperation_204 : decode cX6_readsOperation 204 = .ok (.bipush 61, 2) := by decide +kernel
theorem dX6_readsOperation_206 : decode cX6_readsOperation 206 = .ok (.invokevirtual 154, 3) := by decide +kernel
theorem dX6_readsOperation_209 : decode cX6_readsOperation 209 = .ok (.ifCond .eq 17, 3) := by decide +kernel
theorem dX6_readsOperation_212 : decode cX6_readsOperation 212 = .ok (.aload_n 0, 1) := by decide +kernel
theorem dX6_readsOperation_213 : decode cX6_readsOperation 213 = .ok (.iconst 2, 1) := by decide +kernel
theorem dX6_readsOperation_214 : decode cX6_readsOperation 214 = .ok (.ldc 109, 2) := by decide +kernel
theorem dX6_readsOperation_216 : decode cX6_readsOperation 216 = .ok (.invokevirtual 157, 3) := by decide +kernel
theorem dX6_readsOperation_219 : decode cX6_readsOperation 219 = .ok (.ifCond .eq 7, 3) := by decide +kernel
theorem dX6_readsOperation_222 : decode cX6_readsOperation 222 = .ok (.iconst 1, 1) := by decide +kernel
theorem dX6_readsOperation_223 : decode cX6_readsOperation 223 = .ok (.goto 4, 3) := by decide +kernel
theorem dX6_readsOperation_226 : decode cX6_readsOperation 226 = .ok (.iconst 0, 1) := by decide +kernel
theorem dX6_readsOperation_227 : decode cX6_readsOperation 227 = .ok (.ireturn, 1) := by decide +kernel
theorem dX6_readsOperation_228 : decode cX6_readsOperation 228 = .ok (.aload_n 0, 1) := by decide +kernel
theorem dX6_readsOperation_229 : decode cX6_readsOperation 229 = .ok (.dup, 1) := by decide +kernel
theorem dX6_readsOperation_230 : decode cX6_readsOperation 230 = .ok (.getfield 142, 3) := by decide +kernel
theorem dX6_readsOperation_233 : decode cX6_readsOperation 233 = .ok (.aload_n 0, 1) := by decide +kernel
theorem dX6_readsOperation_234 : decode cX6_readsOperation 234 = .ok (.getfield 148, 3) := by decide +kernel
theorem dX6_readsOperation_237 : decode cX6_readsOperation 237 = .ok (.ifCond .ne 7, 3) := by decide +kernel
theorem dX6_readsOperation_240 : decode cX6_readsOperation 240 = .ok (.iconst 0, 1) := by decide +kernel
theorem dX6_readsOperation_241 : decode cX6_readsOperation 241 = .ok (.goto 4, 3) := by decide +kernel
theorem dX6_readsOperation_244 : decode cX6_readsOperation 244 = .ok (.iconst 1, 1) := by decide +kernel
theorem dX6_readsOperation_245 : decode cX6_readsOperation 245 = .ok (.isub, 1) := by decide +kernel
theorem dX6_readsOperation_246 : decode cX6_readsOperation 246 = .ok (.putfield 142, 3) := by decide +kernel
theorem dX6_readsOperation_249 : decode cX6_readsOperation 249 = .ok (.iconst 0, 1) := by decide +kernel
theorem dX6_readsOperation_250 : decode cX6_readsOperation 250 = .ok (.ireturn, 1) := by decide +kernel
set_option maxRecDepth 20000 in
theorem ggX6_isText_X6_readsOperation : GoodIn wsX6_isText wsX6_readsOperation := goodIn_r _ [7, 8, 1, 9, 10, 11, 12, 6, 13, 2, 14, 15, 16, 17, 18, 19, 20, 21, 22, 23, 24, 25, 26, 27, 28, 29, 30, 31, 32, 33, 34, 35, 36, 37, 38] (by decide +kernel) (by decide +kernel)
set_option maxRecDepth 20000 in
theorem gX6_isText_X6_readsOperation : GoodIn wsX6_isText (wsV RX6 160 RX6 yX6_readsOperation wsX6_readsOperation) := goodIn_app (goodIn_of _ (by decide +kernel)) ggX6_isText_X6_readsOperation
set_option maxRecDepth 20000 in
theorem ggX6_isText_X6_takes : GoodIn wsX6_isText wsX6_takes := goodIn_r _ [26, 1, 10, 11, 12, 6, 13, 2, 14, 31, 32, 33, 34, 35, 36, 37, 38] (by decide +kernel) (by decide +kernel)
set_option maxRecDepth 20000 in
theorem gX6_isText_X6_takes : GoodIn wsX6_isText (wsV RX6 154 RX6 yX6_takes wsX6_takes) := goodIn_app (goodIn_of _ (by decide +kernel)) ggX6_isText_X6_takes
theorem dX6_isText_0 : decode cX6_isText 0 = .ok (.aload_n 0, 1) := by decide +kernel
theorem dX6_isText_1 : decode cX6_isText 1 = .ok (.iconst 0, 1) := by decide +kernel
theorem dX6_isText_2 : decode cX6_isText 2 = .ok (.putfield 142, 3) := by decide +kernel
theorem dX6_isText_5 : decode cX6_isText 5 = .ok (.aload_n 0, 1) := by decide +kernel
theorem dX6_isText_6 : decode cX6_isText 6 = .ok (.invokevirtual 160, 3) := by decide +kernel
theorem dX6_isText_9 : decode cX6_isText 9 = .ok (.ifCond .eq 27, 3) := by decide +kernel
theorem dX6_isText_12 : decode cX6_isText 12 = .ok (.aload_n 0, 1) := by decide +kernel
theorem dX6_isText_13 : decode cX6_isText 13 = .ok (.getfield 142, 3) := by decide +kernel
theorem dX6_isText_16 : decode cX6_isText 16 = .ok (.aload_n 0, 1) := by decide +kernel
theorem dX6_isText_17 : decode cX6_isText 17 = .ok (.getfield 139, 3) := by decide +kernel
theorem dX6_isText_20 : decode cX6_isText 20 = .ok (.if_icmp .ne 5, 3) := by decide +kernel
theorem dX6_isText_23 : decode cX6_isText 23 = .ok (.iconst 1, 1) := by decide +kernel
theorem dX6_isText_24 : decode cX6_isText 24 = .ok (.ireturn, 1) := by decide +kernel
theorem dX6_isText_25 : decode cX6_isText 25 = .ok (.aload_n 0, 1) := by decide +kernel
theorem dX6_isText_26 : decode cX6_isText 26 = .ok (.bipush 59, 2) := by decide +kernel
theorem dX6_isText_28 : decode cX6_isText 28 = .ok (.invokevirtual 154, 3) := by decide +kernel
theorem dX6_isText_31 : decode cX6_isText 31 = .ok (.ifCond .ne (-26), 3) := by decide +kernel
theorem dX6_isText_34 : decode cX6_isText 34 = .ok (.iconst 0, 1) := by decide +kernel
theorem dX6_isText_35 : decode cX6_isText 35 = .ok (.ireturn, 1) := by decide +kernel
theorem dX6_isText_36 : decode cX6_isText 36 = .ok (.iconst 0, 1) := by decide +kernel
theorem dX6_isText_37 : decode cX6_isText 37 = .ok (.ireturn, 1) := by decide +kernel
set_option maxRecDepth 20000 in
theorem ggX6_fault_X6_isText : GoodIn wsX6_fault wsX6_isText := goodIn_r _ [6, 1, 7, 8, 9, 10, 5, 11, 12, 13, 14, 15, 16, 17, 18, 19, 20, 21, 22, 23, 24, 25, 26, 27, 28, 29, 30, 31, 32, 33, 34, 35, 36, 37, 38, 39, 40, 41, 42] (by decide +kernel) (by decide +kernel)
set_option maxRecDepth 20000 in
theorem gX6_fault_X6_isText : GoodIn wsX6_fault (wsV RX6 164 RX6 yX6_isText wsX6_isText) := goodIn_app (goodIn_of _ (by decide +kernel)) ggX6_fault_X6_isText
theorem dX6_fault_0 : decode cX6_fault 0 = .ok (.aload_n 0, 1) := by decide +kernel
theorem dX6_fault_1 : decode cX6_fault 1 = .ok (.invokevirtual 164, 3) := by decide +kernel
theorem dX6_fault_4 : decode cX6_fault 4 = .ok (.ifCond .eq 8, 3) := by decide +kernel
theorem dX6_fault_7 : decode cX6_fault 7 = .ok (.bipush (-6), 2) := by decide +kernel
theorem dX6_fault_9 : decode cX6_fault 9 = .ok (.goto 7, 3) := by decide +kernel
theorem dX6_fault_12 : decode cX6_fault 12 = .ok (.aload_n 0, 1) := by decide +kernel
theorem dX6_fault_13 : decode cX6_fault 13 = .ok (.getfield 142, 3) := by decide +kernel
theorem dX6_fault_16 : decode cX6_fault 16 = .ok (.ireturn, 1) := by decide +kernel
set_option maxRecDepth 20000 in
theorem ggX6_does_X6_loads : GoodIn wsX6_does wsX6_loads := goodIn_r _ [7, 8, 9, 10, 11, 6, 12, 13, 14, 15, 16, 17, 18, 19, 20, 21, 22, 23, 24, 25, 26, 27, 28, 29, 30, 31, 32, 33, 34, 35, 36, 37, 38, 39, 40, 41, 42, 43, 44, 45, 46, 47, 48, 89, 90, 91, 92, 93, 94, 95, 96] (by decide +kernel) (by decide +kernel)
set_option maxRecDepth 20000 in
theorem gX6_does_X6_loads : GoodIn wsX6_does (wsV RX6 82 RX6 yX6_loads wsX6_loads) := goodIn_app (goodIn_of _ (by decide +kernel)) ggX6_does_X6_loads
set_option maxRecDepth 20000 in
theorem ggX6_does_X6_stores : GoodIn wsX6_does wsX6_stores := goodIn_r _ [52, 8, 9, 10, 11, 6, 12, 39, 40, 41, 21, 22, 23, 42, 43, 44, 45, 46, 47, 48, 35, 36, 37, 38, 53, 54, 55, 56, 28, 29, 30, 31, 32, 33, 34, 24, 25, 26, 27, 89, 90, 91, 92, 93, 94, 95, 96] (by decide +kernel) (by decide +kernel)
set_option maxRecDepth 20000 in
theorem gX6_does_X6_stores : GoodIn wsX6_does (wsV RX6 120 RX6 yX6_stores wsX6_stores) := goodIn_app (goodIn_of _ (by decide +kernel)) ggX6_does_X6_stores
set_option maxRecDepth 20000 in
theorem ggX6_does_X6_moves : GoodIn wsX6_does wsX6_moves := goodIn_r _ [60, 8, 9, 10, 11, 6, 12, 39, 40, 41, 42, 43, 44, 45, 46, 47, 48, 35, 36, 37, 38, 89, 90, 91, 92, 93, 94, 95, 96] (by decide +kernel) (by decide +kernel)
set_option maxRecDepth 20000 in
theorem gX6_does_X6_moves : GoodIn wsX6_does (wsV RX6 126 RX6 yX6_moves wsX6_moves) := goodIn_app (goodIn_of _ (by decide +kernel)) ggX6_does_X6_moves
set_option maxRecDepth 20000 in
theorem ggX6_does_X6_computes : GoodIn wsX6_does wsX6_computes := goodIn_r _ [64, 8, 9, 10, 11, 6, 12, 65, 66, 67, 68, 39, 40, 41, 24, 25, 26, 27, 69, 70, 71, 72, 35, 36, 37, 38, 73, 74, 75, 76, 89, 90, 91, 92, 93, 94, 95, 96] (by decide +kernel) (by decide +kernel)
set_option maxRecDepth 20000 in
theorem gX6_does_X6_computes : GoodIn wsX6_does (wsV RX6 129 RX6 yX6_computes wsX6_computes) := goodIn_app (goodIn_of _ (by decide +kernel)) ggX6_does_X6_computes
set_option maxRecDepth 20000 in
theorem ggX6_does_X6_outputs : GoodIn wsX6_does wsX6_outputs := goodIn_r _ [80, 8, 9, 10, 11, 6, 12, 65, 66, 67, 68, 39, 40, 41, 24, 25, 26, 27, 69, 70, 71, 72, 35, 36, 37, 38, 89, 90, 91, 92, 93, 94, 95, 96] (by decide +kernel) (by decide +kernel)
set_option maxRecDepth 20000 in
theorem gX6_does_X6_outputs : GoodIn wsX6_does (wsV RX6 136 RX6 yX6_outputs wsX6_outputs) := goodIn_app (goodIn_of _ (by decide +kernel)) ggX6_does_X6_outputs
set_option maxRecDepth 20000 in
theorem ggX6_does_X6_injects : GoodIn wsX6_does wsX6_injects := goodIn_r _ [84, 8, 21, 22, 6, 23, 35, 36, 37, 38, 89, 90, 91, 92, 93, 94, 95, 96] (by decide +kernel) (by decide +kernel)
set_option maxRecDepth 20000 in
theorem gX6_does_X6_injects : GoodIn wsX6_does (wsV RX6 103 RX6 yX6_injects wsX6_injects) := goodIn_app (goodIn_of _ (by decide +kernel)) ggX6_does_X6_injects
set_option maxRecDepth 20000 in
theorem ggX6_does_X6_sets : GoodIn wsX6_does wsX6_sets := goodIn_r _ [88, 8, 9, 10, 11, 6, 12, 39, 40, 41, 35, 36, 37, 38, 89, 90, 91, 92, 93, 94, 95, 96] (by decide +kernel) (by decide +kernel)
set_option maxRecDepth 20000 in
theorem gX6_does_X6_sets : GoodIn wsX6_does (wsV RX6 116 RX6 yX6_sets wsX6_sets) := goodIn_app (goodIn_of _ (by decide +kernel)) ggX6_does_X6_sets
theorem dX6_does_0 : decode cX6_does 0 = .ok (.aload_n 0, 1) := by decide +kernel
theorem dX6_does_1 : decode cX6_does 1 = .ok (.getfield 148, 3) := by decide +kernel
theorem dX6_does_4 : decode cX6_does 4 = .ok (.tableswitch 231 65 83 #[165, 231, 231, 231, 231, 231, 231, 231, 219, 231, 231, 92, 141, 231, 201, 231, 231, 231, 117], 92) := by decide +kernel
theorem dX6_does_96 : decode cX6_does 96 = .ok (.aload_n 0, 1) := by decide +kernel
theorem dX6_does_97 : decode cX6_does 97 = .ok (.iload_n 1, 1) := by decide +kernel
theorem dX6_does_98 : decode cX6_does 98 = .ok (.aload_n 0, 1) := by decide +kernel
theorem dX6_does_99 : decode cX6_does 99 = .ok (.getfield 16, 3) := by decide +kernel
theorem dX6_does_102 : decode cX6_does 102 = .ok (.iconst 0, 1) := by decide +kernel
theorem dX6_does_103 : decode cX6_does 103 = .ok (.iaload, 1) := by decide +kernel
theorem dX6_does_104 : decode cX6_does 104 = .ok (.aload_n 0, 1) := by decide +kernel
theorem dX6_does_105 : decode cX6_does 105 = .ok (.getfield 16, 3) := by decide +kernel
theorem dX6_does_108 : decode cX6_does 108 = .ok (.iconst 1, 1) := by decide +kernel
theorem dX6_does_109 : decode cX6_does 109 = .ok (.iaload, 1) := by decide +kernel
theorem dX6_does_110 : decode cX6_does 110 = .ok (.aload_n 0, 1) := by decide +kernel
theorem dX6_does_111 : decode cX6_does 111 = .ok (.getfield 16, 3) := by decide +kernel
theorem dX6_does_114 : decode cX6_does 114 = .ok (.iconst 2, 1) := by decide +kernel
theorem dX6_does_115 : decode cX6_does 115 = .ok (.iaload, 1) := by decide +kernel
theorem dX6_does_116 : decode cX6_does 116 = .ok (.iconst 2, 1) := by decide +kernel
theorem dX6_does_117 : decode cX6_does 117 = .ok (.invokevirtual 82, 3) := by decide +kernel
theorem dX6_does_120 : decode cX6_does 120 = .ok (.ireturn, 1) := by decide +kernel
theorem dX6_does_121 : decode cX6_does 121 = .ok (.aload_n 0, 1) := by decide +kernel
theorem dX6_does_122 : decode cX6_does 122 = .ok (.iload_n 1, 1) := by decide +kernel
theorem dX6_does_123 : decode cX6_does 123 = .ok (.aload_n 0, 1) := by decide +kernel
theorem dX6_does_124 : decode cX6_does 124 = .ok (.getfield 16, 3) := by decide +kernel
theorem dX6_does_127 : decode cX6_does 127 = .ok (.iconst 0, 1) := by decide +kernel
theorem dX6_does_128 : decode cX6_does 128 = .ok (.iaload, 1) := by decide +kernel
theorem dX6_does_129 : decode cX6_does 129 = .ok (.aload_n 0, 1) := by decide +kernel
theorem dX6_does_130 : decode cX6_does 130 = .ok (.getfield 16, 3) := by decide +kernel
theorem dX6_does_133 : decode cX6_does 133 = .ok (.iconst 1, 1) := by decide +kernel
theorem dX6_does_134 : decode cX6_does 134 = .ok (.iaload, 1) := by decide +kernel
theorem dX6_does_135 : decode cX6_does 135 = .ok (.aload_n 0, 1) := by decide +kernel
theorem dX6_does_136 : decode cX6_does 136 = .ok (.getfield 16, 3) := by decide +kernel
theorem dX6_does_139 : decode cX6_does 139 = .ok (.iconst 2, 1) := by decide +kernel
theorem dX6_does_140 : decode cX6_does 140 = .ok (.iaload, 1) := by decide +kernel
theorem dX6_does_141 : decode cX6_does 141 = .ok (.invokevirtual 120, 3) := by decide +kernel
theorem dX6_does_144 : decode cX6_does 144 = .ok (.ireturn, 1) := by decide +kernel
theorem dX6_does_145 : decode cX6_does 145 = .ok (.aload_n 0, 1) := by decide +kernel
theorem dX6_does_146 : decode cX6_does 146 = .ok (.iload_n 1, 1) := by decide +kernel
theorem dX6_does_147 : decode cX6_does 147 = .ok (.aload_n 0, 1) := by decide +kernel
theorem dX6_does_148 : decode cX6_does 148 = .ok (.getfield 16, 3) := by decide +kernel
theorem dX6_does_151 : decode cX6_does 151 = .ok (.iconst 0, 1) := by decide +kernel
theorem dX6_does_152 : decode cX6_does 152 = .ok (.iaload, 1) := by decide +kernel
theorem dX6_does_153 : decode cX6_does 153 = .ok (.aload_n 0, 1) := by decide +kernel
theorem dX6_does_154 : decode cX6_does 154 = .ok (.getfield 16, 3) := by decide +kernel
theorem dX6_does_157 : decode cX6_does 157 = .ok (.iconst 1, 1) := by decide +kernel
theorem dX6_does_158 : decode cX6_does 158 = .ok (.iaload, 1) := by decide +kernel
theorem dX6_does_159 : decode cX6_does 159 = .ok (.aload_n 0, 1) := by decide +kernel
theorem dX6_does_160 : decode cX6_does 160 = .ok (.getfield 16, 3) := by decide +kernel
theorem dX6_does_163 : decode cX6_does 163 = .ok (.iconst 2, 1) := by decide +kernel
theorem dX6_does_164 : decode cX6_does 164 = .ok (.iaload, 1) := by decide +kernel
theorem dX6_does_165 : decode cX6_does 165 = .ok (.invokevirtual 126, 3) := by decide +kernel
theorem dX6_does_168 : decode cX6_does 168 = .ok (.ireturn, 1) := by decide +kernel
theorem dX6_does_169 : decode cX6_does 169 = .ok (.aload_n 0, 1) := by decide +kernel
theorem dX6_does_170 : decode cX6_does 170 = .ok (.iload_n 1, 1) := by decide +kernel
theorem dX6_does_171 : decode cX6_does 171 = .ok (.aload_n 0, 1) := by decide +kernel
theorem dX6_does_172 : decode cX6_does 172 = .ok (.getfield 16, 3) := by decide +kernel
theorem dX6_does_175 : decode cX6_does 175 = .ok (.iconst 0, 1) := by decide +kernel
theorem dX6_does_176 : decode cX6_does 176 = .ok (.iaload, 1) := by decide +kernel
theorem dX6_does_177 : decode cX6_does 177 = .ok (.aload_n 0, 1) := by decide +kernel
theorem dX6_does_178 : decode cX6_does 178 = .ok (.getfield 16, 3) := by decide +kernel
theorem dX6_does_181 : decode cX6_does 181 = .ok (.iconst 1, 1) := by decide +kernel
theorem dX6_does_182 : decode cX6_does 182 = .ok (.iaload, 1) := by decide +kernel
theorem dX6_does_183 : decode cX6_does 183 = .ok (.aload_n 0, 1) := by decide +kernel
theorem dX6_does_184 : decode cX6_does 184 = .ok (.getfield 16, 3) := by decide +kernel
theorem dX6_does_187 : decode cX6_does 187 = .ok (.iconst 2, 1) := by decide +kernel
theorem dX6_does_188 : decode cX6_does 188 = .ok (.iaload, 1) := by decide +kernel
theorem dX6_does_189 : decode cX6_does 189 = .ok (.aload_n 0, 1) := by decide +kernel
theorem dX6_does_190 : decode cX6_does 190 = .ok (.getfield 16, 3) := by decide +kernel
theorem dX6_does_193 : decode cX6_does 193 = .ok (.iconst 3, 1) := by decide +kernel
theorem dX6_does_194 : decode cX6_does 194 = .ok (.iaload, 1) := by decide +kernel
theorem dX6_does_195 : decode cX6_does 195 = .ok (.aload_n 0, 1) := by decide +kernel
theorem dX6_does_196 : decode cX6_does 196 = .ok (.getfield 16, 3) := by decide +kernel
theorem dX6_does_199 : decode cX6_does 199 = .ok (.iconst 4, 1) := by decide +kernel
theorem dX6_does_200 : decode cX6_does 200 = .ok (.iaload, 1) := by decide +kernel
theorem dX6_does_201 : decode cX6_does 201 = .ok (.invokevirtual 129, 3) := by decide +kernel
theorem dX6_does_204 : decode cX6_does 204 = .ok (.ireturn, 1) := by decide +kernel
theorem dX6_does_205 : decode cX6_does 205 = .ok (.aload_n 0, 1) := by decide +kernel
theorem dX6_does_206 : decode cX6_does 206 = .ok (.iload_n 1, 1) := by decide +kernel
theorem dX6_does_207 : decode cX6_does 207 = .ok (.aload_n 0, 1) := by decide +kernel
theorem dX6_does_208 : decode cX6_does 208 = .ok (.getfield 16, 3) := by decide +kernel
theorem dX6_does_211 : decode cX6_does 211 = .ok (.iconst 0, 1) := by decide +kernel
theorem dX6_does_212 : decode cX6_does 212 = .ok (.iaload, 1) := by decide +kernel
theorem dX6_does_213 : decode cX6_does 213 = .ok (.aload_n 0, 1) := by decide +kernel
theorem dX6_does_214 : decode cX6_does 214 = .ok (.getfield 16, 3) := by decide +kernel
theorem dX6_does_217 : decode cX6_does 217 = .ok (.iconst 1, 1) := by decide +kernel
theorem dX6_does_218 : decode cX6_does 218 = .ok (.iaload, 1) := by decide +kernel
theorem dX6_does_219 : decode cX6_does 219 = .ok (.invokevirtual 136, 3) := by decide +kernel
theorem dX6_does_222 : decode cX6_does 222 = .ok (.ireturn, 1) := by decide +kernel
theorem dX6_does_223 : decode cX6_does 223 = .ok (.aload_n 0, 1) := by decide +kernel
theorem dX6_does_224 : decode cX6_does 224 = .ok (.iload_n 1, 1) := by decide +kernel
theorem dX6_does_225 : decode cX6_does 225 = .ok (.aload_n 0, 1) := by decide +kernel
theorem dX6_does_226 : decode cX6_does 226 = .ok (.getfield 16, 3) := by decide +kernel
theorem dX6_does_229 : decode cX6_does 229 = .ok (.iconst 0, 1) := by decide +kernel
theorem dX6_does_230 : decode cX6_does 230 = .ok (.iaload, 1) := by decide +kernel
theorem dX6_does_231 : decode cX6_does 231 = .ok (.invokevirtual 103, 3) := by decide +kernel
theorem dX6_does_234 : decode cX6_does 234 = .ok (.ireturn, 1) := by decide +kernel
theorem dX6_does_235 : decode cX6_does 235 = .ok (.aload_n 0, 1) := by decide +kernel
theorem dX6_does_236 : decode cX6_does 236 = .ok (.iload_n 1, 1) := by decide +kernel
theorem dX6_does_237 : decode cX6_does 237 = .ok (.aload_n 0, 1) := by decide +kernel
theorem dX6_does_238 : decode cX6_does 238 = .ok (.getfield 16, 3) := by decide +kernel
theorem dX6_does_241 : decode cX6_does 241 = .ok (.iconst 0, 1) := by decide +kernel
theorem dX6_does_242 : decode cX6_does 242 = .ok (.iaload, 1) := by decide +kernel
theorem dX6_does_243 : decode cX6_does 243 = .ok (.aload_n 0, 1) := by decide +kernel
theorem dX6_does_244 : decode cX6_does 244 = .ok (.getfield 16, 3) := by decide +kernel
theorem dX6_does_247 : decode cX6_does 247 = .ok (.iconst 1, 1) := by decide +kernel
theorem dX6_does_248 : decode cX6_does 248 = .ok (.iaload, 1) := by decide +kernel
theorem dX6_does_249 : decode cX6_does 249 = .ok (.aload_n 0, 1) := by decide +kernel
theorem dX6_does_250 : decode cX6_does 250 = .ok (.getfield 16, 3) := by decide +kernel
theorem dX6_does_253 : decode cX6_does 253 = .ok (.iconst 2, 1) := by decide +kernel
theorem dX6_does_254 : decode cX6_does 254 = .ok (.iaload, 1) := by decide +kernel
theorem dX6_does_255 : decode cX6_does 255 = .ok (.invokevirtual 116, 3) := by decide +kernel
theorem dX6_does_258 : decode cX6_does 258 = .ok (.ireturn, 1) := by decide +kernel
theorem dX6_stoppedTasks_0 : decode cX6_stoppedTasks 0 = .ok (.iconst 0, 1) := by decide +kernel
theorem dX6_stoppedTasks_1 : decode cX6_stoppedTasks 1 = .ok (.istore_n 2, 1) := by decide +kernel
theorem dX6_stoppedTasks_2 : decode cX6_stoppedTasks 2 = .ok (.iconst 0, 1) := by decide +kernel
theorem dX6_stoppedTasks_3 : decode cX6_stoppedTasks 3 = .ok (.istore_n 3, 1) := by decide +kernel
theorem dX6_stoppedTasks_4 : decode cX6_stoppedTasks 4 = .ok (.iload_n 3, 1) := by decide +kernel
theorem dX6_stoppedTasks_5 : decode cX6_stoppedTasks 5 = .ok (.iconst 4, 1) := by decide +kernel
theorem dX6_stoppedTasks_6 : decode cX6_stoppedTasks 6 = .ok (.if_icmp .ge 24, 3) := by decide +kernel
theorem dX6_stoppedTasks_9 : decode cX6_stoppedTasks 9 = .ok (.iload_n 2, 1) := by decide +kernel
theorem dX6_stoppedTasks_10 : decode cX6_stoppedTasks 10 = .ok (.aload_n 0, 1) := by decide +kernel
theorem dX6_stoppedTasks_11 : decode cX6_stoppedTasks 11 = .ok (.getfield 7, 3) := by decide +kernel
theorem dX6_stoppedTasks_14 : decode cX6_stoppedTasks 14 = .ok (.iload_n 1, 1) := by decide +kernel
theorem dX6_stoppedTasks_15 : decode cX6_stoppedTasks 15 = .ok (.sipush 252, 3) := by decide +kernel
theorem dX6_stoppedTasks_18 : decode cX6_stoppedTasks 18 = .ok (.iadd, 1) := by decide +kernel
theorem dX6_stoppedTasks_19 : decode cX6_stoppedTasks 19 = .ok (.iload_n 3, 1) := by decide +kernel
theorem dX6_stoppedTasks_20 : decode cX6_stoppedTasks 20 = .ok (.iadd, 1) := by decide +kernel
theorem dX6_stoppedTasks_21 : decode cX6_stoppedTasks 21 = .ok (.iaload, 1) := by decide +kernel
theorem dX6_stoppedTasks_22 : decode cX6_stoppedTasks 22 = .ok (.iadd, 1) := by decide +kernel
theorem dX6_stoppedTasks_23 : decode cX6_stoppedTasks 23 = .ok (.istore_n 2, 1) := by decide +kernel
theorem dX6_stoppedTasks_24 : decode cX6_stoppedTasks 24 = .ok (.iinc 3 1, 3) := by decide +kernel
theorem dX6_stoppedTasks_27 : decode cX6_stoppedTasks 27 = .ok (.goto (-23), 3) := by decide +kernel
theorem dX6_stoppedTasks_30 : decode cX6_stoppedTasks 30 = .ok (.iload_n 2, 1) := by decide +kernel
theorem dX6_stoppedTasks_31 : decode cX6_stoppedTasks 31 = .ok (.ireturn, 1) := by decide +kernel
set_option maxRecDepth 20000 in
theorem ggX6_runs_X6_begins : GoodIn wsX6_runs wsX6_begins := goodIn_r _ [6, 7, 8, 9, 5, 10, 11, 135, 136, 137, 138, 139, 140, 141, 142] (by decide +kernel) (by decide +kernel)
set_option maxRecDepth 20000 in
theorem gX6_runs_X6_begins : GoodIn wsX6_runs (wsV RX6 99 RX6 yX6_begins wsX6_begins) := goodIn_app (goodIn_of _ (by decide +kernel)) ggX6_runs_X6_begins
set_option maxRecDepth 20000 in
theorem ggX6_runs_X6_stoppedTasks : GoodIn wsX6_runs wsX6_stoppedTasks := goodIn_r _ [15, 11, 135, 136, 137, 138, 139, 140, 141, 142] (by decide +kernel) (by decide +kernel)
set_option maxRecDepth 20000 in
theorem gX6_runs_X6_stoppedTasks : GoodIn wsX6_runs (wsV RX6 167 RX6 yX6_stoppedTasks wsX6_stoppedTasks) := goodIn_app (goodIn_of _ (by decide +kernel)) ggX6_runs_X6_stoppedTasks
set_option maxRecDepth 20000 in
theorem ggX6_runs_X6_readsOperation : GoodIn wsX6_runs wsX6_readsOperation := goodIn_r _ [19, 20, 1, 21, 22, 23, 24, 5, 25, 26, 27, 28, 29, 30, 31, 32, 33, 34, 35, 36, 37, 38, 39, 40, 41, 42, 43, 135, 136, 137, 138, 139, 140, 141, 142] (by decide +kernel) (by decide +kernel)
set_option maxRecDepth 20000 in
theorem gX6_runs_X6_readsOperation : GoodIn wsX6_runs (wsV RX6 160 RX6 yX6_readsOperation wsX6_readsOperation) := goodIn_app (goodIn_of _ (by decide +kernel)) ggX6_runs_X6_readsOperation
set_option maxRecDepth 20000 in
theorem ggX6_runs_X6_does : GoodIn wsX6_runs wsX6_does := goodIn_r _ [47, 20, 32, 48, 49, 50, 5, 51, 11, 52, 53, 54, 55, 56, 57, 58, 59, 60, 61, 62, 63, 64, 65, 66, 67, 68, 69, 70, 71, 72, 73, 74, 75, 76, 77, 78, 79, 80, 81, 82, 83, 84, 85, 86, 87, 88, 89, 90, 91, 92, 93, 94, 95, 96, 97, 98, 99, 100, 101, 102, 103, 104, 105, 106, 107, 108, 109, 110, 111, 112, 113, 114, 115, 116, 117, 118, 119, 120, 121, 122, 123, 124, 125, 126, 127, 128, 129, 130, 131, 135, 136, 137, 138, 139, 140, 141, 142] (by decide +kernel) (by decide +kernel)
set_option maxRecDepth 20000 in
theorem gX6_runs_X6_does : GoodIn wsX6_runs (wsV RX6 170 RX6 yX6_does wsX6_does) := goodIn_app (goodIn_of _ (by decide +kernel)) ggX6_runs_X6_does
set_option maxRecDepth 20000 in
theorem ggX6_runs_X6_isError : GoodIn wsX6_runs wsX6_isError := goodIn_r _ [134] (by decide +kernel) (by decide +kernel)
set_option maxRecDepth 20000 in
theorem gX6_runs_X6_isError : GoodIn wsX6_runs (va_wsS RX6 86 yX6_isError wsX6_isError) := goodIn_app (goodIn_of _ (by decide +kernel)) ggX6_runs_X6_isError
set_option maxRecDepth 20000 in
theorem ggX6_runs_X6_takes : GoodIn wsX6_runs wsX6_takes := goodIn_r _ [39, 1, 22, 23, 24, 5, 25, 26, 27, 135, 136, 137, 138, 139, 140, 141, 142] (by decide +kernel) (by decide +kernel)
set_option maxRecDepth 20000 in
theorem gX6_runs_X6_takes : GoodIn wsX6_runs (wsV RX6 154 RX6 yX6_takes wsX6_takes) := goodIn_app (goodIn_of _ (by decide +kernel)) ggX6_runs_X6_takes
theorem dX6_runs_0 : decode cX6_runs 0 = .ok (.aload_n 0, 1) := by decide +kernel
theorem dX6_runs_1 : decode cX6_runs 1 = .ok (.invokevirtual 99, 3) := by decide +kernel
theorem dX6_runs_4 : decode cX6_runs 4 = .ok (.istore_n 2, 1) := by decide +kernel
theorem dX6_runs_5 : decode cX6_runs 5 = .ok (.aload_n 0, 1) := by decide +kernel
theorem dX6_runs_6 : decode cX6_runs 6 = .ok (.iload_n 2, 1) := by decide +kernel
theorem dX6_runs_7 : decode cX6_runs 7 = .ok (.invokevirtual 167, 3) := by decide +kernel
theorem dX6_runs_10 : decode cX6_runs 10 = .ok (.istore_n 3, 1) := by decide +kernel
theorem dX6_runs_11 : decode cX6_runs 11 = .ok (.bipush (-6), 2) := by decide +kernel
theorem dX6_runs_13 : decode cX6_runs 13 = .ok (.istore 4, 2) := by decide +kernel
theorem dX6_runs_15 : decode cX6_runs 15 = .ok (.iconst 0, 1) := by decide +kernel
theorem dX6_runs_16 : decode cX6_runs 16 = .ok (.istore 5, 2) := by decide +kernel
theorem dX6_runs_18 : decode cX6_runs 18 = .ok (.aload_n 0, 1) := by decide +kernel
theorem dX6_runs_19 : decode cX6_runs 19 = .ok (.iconst 0, 1) := by decide +kernel
theorem dX6_runs_20 : decode cX6_runs 20 = .ok (.putfield 142, 3) := by decide +kernel
theorem dX6_runs_23 : decode cX6_runs 23 = .ok (.aload_n 0, 1) := by decide +kernel
theorem dX6_runs_24 : decode cX6_runs 24 = .ok (.invokevirtual 160, 3) := by decide +kernel
theorem dX6_runs_27 : decode cX6_runs 27 = .ok (.ifCond .eq 64, 3) := by decide +kernel
theorem dX6_runs_30 : decode cX6_runs 30 = .ok (.aload_n 0, 1) := by decide +kernel
theorem dX6_runs_31 : decode cX6_runs 31 = .ok (.iload_n 2, 1) := by decide +kernel
theorem dX6_runs_32 : decode cX6_runs 32 = .ok (.invokevirtual 170, 3) := by decide +kernel
theorem dX6_runs_35 : decode cX6_runs 35 = .ok (.invokestatic 86, 3) := by decide +kernel
theorem dX6_runs_38 : decode cX6_runs 38 = .ok (.ifCond .eq 15, 3) := by decide +kernel
theorem dX6_runs_41 : decode cX6_runs 41 = .ok (.iload_n 1, 1) := by decide +kernel
theorem dX6_runs_42 : decode cX6_runs 42 = .ok (.ifCond .eq 8, 3) := by decide +kernel
theorem dX6_runs_45 : decode cX6_runs 45 = .ok (.iload 4, 2) := by decide +kernel
theorem dX6_runs_47 : decode cX6_runs 47 = .ok (.goto 5, 3) := by decide +kernel
theorem dX6_runs_50 : decode cX6_runs 50 = .ok (.iload 5, 2) := by decide +kernel
theorem dX6_runs_52 : decode cX6_runs 52 = .ok (.ireturn, 1) := by decide +kernel
theorem dX6_runs_53 : decode cX6_runs 53 = .ok (.iload 4, 2) := by decide +kernel
theorem dX6_runs_55 : decode cX6_runs 55 = .ok (.bipush (-6), 2) := by decide +kernel
theorem dX6_runs_57 : decode cX6_runs 57 = .ok (.if_icmp .ne 17, 3) := by decide +kernel
theorem dX6_runs_60 : decode cX6_runs 60 = .ok (.aload_n 0, 1) := by decide +kernel
theorem dX6_runs_61 : decode cX6_runs 61 = .ok (.iload_n 2, 1) := by decide +kernel
theorem dX6_runs_62 : decode cX6_runs 62 = .ok (.invokevirtual 167, 3) := by decide +kernel
theorem dX6_runs_65 : decode cX6_runs 65 = .ok (.iload_n 3, 1) := by decide +kernel
theorem dX6_runs_66 : decode cX6_runs 66 = .ok (.if_icmp .le 8, 3) := by decide +kernel
theorem dX6_runs_69 : decode cX6_runs 69 = .ok (.iload 5, 2) := by decide +kernel
theorem dX6_runs_71 : decode cX6_runs 71 = .ok (.goto 5, 3) := by decide +kernel
theorem dX6_runs_74 : decode cX6_runs 74 = .ok (.iload 4, 2) := by decide +kernel
theorem dX6_runs_76 : decode cX6_runs 76 = .ok (.istore 4, 2) := by decide +kernel
theorem dX6_runs_78 : decode cX6_runs 78 = .ok (.iinc 5 1, 3) := by decide +kernel
theorem dX6_runs_81 : decode cX6_runs 81 = .ok (.aload_n 0, 1) := by decide +kernel
theorem dX6_runs_82 : decode cX6_runs 82 = .ok (.bipush 59, 2) := by decide +kernel
theorem dX6_runs_84 : decode cX6_runs 84 = .ok (.invokevirtual 154, 3) := by decide +kernel
theorem dX6_runs_87 : decode cX6_runs 87 = .ok (.pop, 1) := by decide +kernel
theorem dX6_runs_88 : decode cX6_runs 88 = .ok (.goto (-65), 3) := by decide +kernel
theorem dX6_runs_91 : decode cX6_runs 91 = .ok (.iload_n 1, 1) := by decide +kernel
theorem dX6_runs_92 : decode cX6_runs 92 = .ok (.ifCond .eq 8, 3) := by decide +kernel
theorem dX6_runs_95 : decode cX6_runs 95 = .ok (.iload 4, 2) := by decide +kernel
theorem dX6_runs_97 : decode cX6_runs 97 = .ok (.goto 5, 3) := by decide +kernel
theorem dX6_runs_100 : decode cX6_runs 100 = .ok (.iload 5, 2) := by decide +kernel
theorem dX6_runs_102 : decode cX6_runs 102 = .ok (.ireturn, 1) := by decide +kernel
set_option maxRecDepth 20000 in
theorem ggX6_run_X6_isText : GoodIn wsX6_run wsX6_isText := goodIn_r _ [5, 6, 7, 8, 9, 10, 4, 11, 12, 13, 14, 15, 16, 17, 18, 19, 20, 21, 22, 23, 24, 25, 26, 27, 28, 29, 30, 31, 32, 33, 34, 148, 149, 150, 151, 152, 153, 154, 155] (by decide +kernel) (by decide +kernel)
set_option maxRecDepth 20000 in
theorem gX6_run_X6_isText : GoodIn wsX6_run (wsV RX6 164 RX6 yX6_isText wsX6_isText) := goodIn_app (goodIn_of _ (by decide +kernel)) ggX6_run_X6_isText
set_option maxRecDepth 20000 in
theorem ggX6_run_X6_runs : GoodIn wsX6_run wsX6_runs := goodIn_r _ [38, 6, 39, 40, 41, 4, 42, 43, 44, 45, 46, 47, 48, 49, 50, 51, 8, 9, 10, 11, 12, 13, 14, 15, 16, 17, 7, 18, 19, 20, 21, 22, 23, 24, 25, 26, 27, 28, 29, 30, 31, 32, 33, 34, 52, 53, 54, 55, 56, 57, 58, 59, 60, 61, 62, 63, 64, 65, 66, 67, 68, 69, 70, 71, 72, 73, 74, 75, 76, 77, 78, 79, 80, 81, 82, 83, 84, 85, 86, 87, 88, 89, 90, 91, 92, 93, 94, 95, 96, 97, 98, 99, 100, 101, 102, 103, 104, 105, 106, 107, 108, 109, 110, 111, 112, 113, 114, 115, 116, 117, 118, 119, 120, 121, 122, 123, 124, 125, 126, 127, 128, 129, 130, 131, 132, 133, 134, 135, 136, 137, 138, 139, 140, 141, 142, 148, 149, 150, 151, 152, 153, 154, 155] (by decide +kernel) (by decide +kernel)
set_option maxRecDepth 20000 in
theorem gX6_run_X6_runs : GoodIn wsX6_run (wsV RX6 173 RX6 yX6_runs wsX6_runs) := goodIn_app (goodIn_of _ (by decide +kernel)) ggX6_run_X6_runs
set_option maxRecDepth 20000 in
theorem ggX6_run_X6_accepts : GoodIn wsX6_run wsX6_accepts := goodIn_r _ [146, 147, 140, 141, 4, 142, 43, 44, 45, 46, 47, 148, 149, 150, 151, 152, 153, 154, 155] (by decide +kernel) (by decide +kernel)
set_option maxRecDepth 20000 in
theorem gX6_run_X6_accepts : GoodIn wsX6_run (wsV RX6 106 RX6 yX6_accepts wsX6_accepts) := goodIn_app (goodIn_of _ (by decide +kernel)) ggX6_run_X6_accepts
theorem dX6_run_0 : decode cX6_run 0 = .ok (.aload_n 0, 1) := by decide +kernel
theorem dX6_run_1 : decode cX6_run 1 = .ok (.invokevirtual 164, 3) := by decide +kernel
theorem dX6_run_4 : decode cX6_run 4 = .ok (.ifCond .eq 15, 3) := by decide +kernel
theorem dX6_run_7 : decode cX6_run 7 = .ok (.aload_n 0, 1) := by decide +kernel
theorem dX6_run_8 : decode cX6_run 8 = .ok (.aload_n 0, 1) := by decide +kernel
theorem dX6_run_9 : decode cX6_run 9 = .ok (.iconst 0, 1) := by decide +kernel
theorem dX6_run_10 : decode cX6_run 10 = .ok (.invokevirtual 173, 3) := by decide +kernel
theorem dX6_run_13 : decode cX6_run 13 = .ok (.invokevirtual 106, 3) := by decide +kernel
theorem dX6_run_16 : decode cX6_run 16 = .ok (.goto 5, 3) := by decide +kernel
theorem dX6_run_19 : decode cX6_run 19 = .ok (.bipush (-3), 2) := by decide +kernel
theorem dX6_run_21 : decode cX6_run 21 = .ok (.ireturn, 1) := by decide +kernel
set_option maxRecDepth 20000 in
theorem ggX6_undo_X6_copies : GoodIn wsX6_undo wsX6_copies := goodIn_r _ [6, 7, 8, 9, 10, 11, 12, 13, 14, 15] (by decide +kernel) (by decide +kernel)
set_option maxRecDepth 20000 in
theorem gX6_undo_X6_copies : GoodIn wsX6_undo (wsV RX6 93 RX6 yX6_copies wsX6_copies) := goodIn_app (goodIn_of _ (by decide +kernel)) ggX6_undo_X6_copies
theorem dX6_undo_0 : decode cX6_undo 0 = .ok (.aload_n 0, 1) := by decide +kernel
theorem dX6_undo_1 : decode cX6_undo 1 = .ok (.getfield 89, 3) := by decide +kernel
theorem dX6_undo_4 : decode cX6_undo 4 = .ok (.ifCond .ne 6, 3) := by decide +kernel
theorem dX6_undo_7 : decode cX6_undo 7 = .ok (.bipush (-6), 2) := by decide +kernel
theorem dX6_undo_9 : decode cX6_undo 9 = .ok (.ireturn, 1) := by decide +kernel
theorem dX6_undo_10 : decode cX6_undo 10 = .ok (.aload_n 0, 1) := by decide +kernel
theorem dX6_undo_11 : decode cX6_undo 11 = .ok (.aload_n 0, 1) := by decide +kernel
theorem dX6_undo_12 : decode cX6_undo 12 = .ok (.getfield 89, 3) := by decide +kernel
theorem dX6_undo_15 : decode cX6_undo 15 = .ok (.iconst 0, 1) := by decide +kernel
theorem dX6_undo_16 : decode cX6_undo 16 = .ok (.invokevirtual 93, 3) := by decide +kernel
theorem dX6_undo_19 : decode cX6_undo 19 = .ok (.aload_n 0, 1) := by decide +kernel
theorem dX6_undo_20 : decode cX6_undo 20 = .ok (.dup, 1) := by decide +kernel
theorem dX6_undo_21 : decode cX6_undo 21 = .ok (.getfield 89, 3) := by decide +kernel
theorem dX6_undo_24 : decode cX6_undo 24 = .ok (.iconst 1, 1) := by decide +kernel
theorem dX6_undo_25 : decode cX6_undo 25 = .ok (.isub, 1) := by decide +kernel
theorem dX6_undo_26 : decode cX6_undo 26 = .ok (.putfield 89, 3) := by decide +kernel
theorem dX6_undo_29 : decode cX6_undo 29 = .ok (.aload_n 0, 1) := by decide +kernel
theorem dX6_undo_30 : decode cX6_undo 30 = .ok (.getfield 89, 3) := by decide +kernel
theorem dX6_undo_33 : decode cX6_undo 33 = .ok (.ireturn, 1) := by decide +kernel
set_option maxRecDepth 20000 in
theorem ggX6_mark_X6_isPoisoned : GoodIn wsX6_mark wsX6_isPoisoned := goodIn_r _ [6, 1, 7, 8, 9, 10, 11, 12, 13, 14] (by decide +kernel) (by decide +kernel)
set_option maxRecDepth 20000 in
theorem gX6_mark_X6_isPoisoned : GoodIn wsX6_mark (wsV RX6 38 RX6 yX6_isPoisoned wsX6_isPoisoned) := goodIn_app (goodIn_of _ (by decide +kernel)) ggX6_mark_X6_isPoisoned
theorem dX6_mark_0 : decode cX6_mark 0 = .ok (.aload_n 0, 1) := by decide +kernel
theorem dX6_mark_1 : decode cX6_mark 1 = .ok (.iload_n 1, 1) := by decide +kernel
theorem dX6_mark_2 : decode cX6_mark 2 = .ok (.invokevirtual 38, 3) := by decide +kernel
theorem dX6_mark_5 : decode cX6_mark 5 = .ok (.ifCond .eq 14, 3) := by decide +kernel
theorem dX6_mark_8 : decode cX6_mark 8 = .ok (.aload_n 0, 1) := by decide +kernel
theorem dX6_mark_9 : decode cX6_mark 9 = .ok (.getfield 7, 3) := by decide +kernel
theorem dX6_mark_12 : decode cX6_mark 12 = .ok (.iload_n 1, 1) := by decide +kernel
theorem dX6_mark_13 : decode cX6_mark 13 = .ok (.iload_n 2, 1) := by decide +kernel
theorem dX6_mark_14 : decode cX6_mark 14 = .ok (.iadd, 1) := by decide +kernel
theorem dX6_mark_15 : decode cX6_mark 15 = .ok (.iaload, 1) := by decide +kernel
theorem dX6_mark_16 : decode cX6_mark 16 = .ok (.goto 5, 3) := by decide +kernel
theorem dX6_mark_19 : decode cX6_mark 19 = .ok (.bipush (-6), 2) := by decide +kernel
theorem dX6_mark_21 : decode cX6_mark 21 = .ok (.ireturn, 1) := by decide +kernel
set_option maxRecDepth 20000 in
theorem ggX6_value_X6_isWord : GoodIn wsX6_value wsX6_isWord := goodIn_r _ [5, 6, 7, 4, 8] (by decide +kernel) (by decide +kernel)
set_option maxRecDepth 20000 in
theorem gX6_value_X6_isWord : GoodIn wsX6_value (va_wsS RX6 96 yX6_isWord wsX6_isWord) := goodIn_app (goodIn_of _ (by decide +kernel)) ggX6_value_X6_isWord
set_option maxRecDepth 20000 in
theorem ggX6_value_X6_wordAt : GoodIn wsX6_value wsX6_wordAt := goodIn_r _ [11] (by decide +kernel) (by decide +kernel)
set_option maxRecDepth 20000 in
theorem gX6_value_X6_wordAt : GoodIn wsX6_value (va_wsS RX6 34 yX6_wordAt wsX6_wordAt) := goodIn_app (goodIn_of _ (by decide +kernel)) ggX6_value_X6_wordAt
theorem dX6_value_0 : decode cX6_value 0 = .ok (.iload_n 1, 1) := by decide +kernel
theorem dX6_value_1 : decode cX6_value 1 = .ok (.invokestatic 96, 3) := by decide +kernel
theorem dX6_value_4 : decode cX6_value 4 = .ok (.ifCond .eq 16, 3) := by decide +kernel
theorem dX6_value_7 : decode cX6_value 7 = .ok (.aload_n 0, 1) := by decide +kernel
theorem dX6_value_8 : decode cX6_value 8 = .ok (.getfield 7, 3) := by decide +kernel
theorem dX6_value_11 : decode cX6_value 11 = .ok (.iconst 0, 1) := by decide +kernel
theorem dX6_value_12 : decode cX6_value 12 = .ok (.iload_n 1, 1) := by decide +kernel
theorem dX6_value_13 : decode cX6_value 13 = .ok (.invokestatic 34, 3) := by decide +kernel
theorem dX6_value_16 : decode cX6_value 16 = .ok (.iaload, 1) := by decide +kernel
theorem dX6_value_17 : decode cX6_value 17 = .ok (.goto 4, 3) := by decide +kernel
theorem dX6_value_20 : decode cX6_value 20 = .ok (.iconst (-1), 1) := by decide +kernel
theorem dX6_value_21 : decode cX6_value 21 = .ok (.ireturn, 1) := by decide +kernel
set_option maxRecDepth 20000 in
theorem ggX6_origin_X6_isWord : GoodIn wsX6_origin wsX6_isWord := goodIn_r _ [4, 5, 6, 3, 7] (by decide +kernel) (by decide +kernel)
set_option maxRecDepth 20000 in
theorem gX6_origin_X6_isWord : GoodIn wsX6_origin (va_wsS RX6 96 yX6_isWord wsX6_isWord) := goodIn_app (goodIn_of _ (by decide +kernel)) ggX6_origin_X6_isWord
set_option maxRecDepth 20000 in
theorem ggX6_origin_X6_wordAt : GoodIn wsX6_origin wsX6_wordAt := goodIn_r _ [10] (by decide +kernel) (by decide +kernel)
set_option maxRecDepth 20000 in
theorem gX6_origin_X6_wordAt : GoodIn wsX6_origin (va_wsS RX6 34 yX6_wordAt wsX6_wordAt) := goodIn_app (goodIn_of _ (by decide +kernel)) ggX6_origin_X6_wordAt
set_option maxRecDepth 20000 in
theorem ggX6_origin_X6_mark : GoodIn wsX6_origin wsX6_mark := goodIn_r _ [14, 15, 16, 17, 18, 3, 19, 20, 21, 22, 23, 24, 25, 26, 27] (by decide +kernel) (by decide +kernel)
set_option maxRecDepth 20000 in
theorem gX6_origin_X6_mark : GoodIn wsX6_origin (wsV RX6 177 RX6 yX6_mark wsX6_mark) := goodIn_app (goodIn_of _ (by decide +kernel)) ggX6_origin_X6_mark
theorem dX6_origin_0 : decode cX6_origin 0 = .ok (.iload_n 1, 1) := by decide +kernel
theorem dX6_origin_1 : decode cX6_origin 1 = .ok (.invokestatic 96, 3) := by decide +kernel
theorem dX6_origin_4 : decode cX6_origin 4 = .ok (.ifCond .eq 16, 3) := by decide +kernel
theorem dX6_origin_7 : decode cX6_origin 7 = .ok (.aload_n 0, 1) := by decide +kernel
theorem dX6_origin_8 : decode cX6_origin 8 = .ok (.iconst 0, 1) := by decide +kernel
theorem dX6_origin_9 : decode cX6_origin 9 = .ok (.iload_n 1, 1) := by decide +kernel
theorem dX6_origin_10 : decode cX6_origin 10 = .ok (.invokestatic 34, 3) := by decide +kernel
theorem dX6_origin_13 : decode cX6_origin 13 = .ok (.iconst 1, 1) := by decide +kernel
theorem dX6_origin_14 : decode cX6_origin 14 = .ok (.invokevirtual 177, 3) := by decide +kernel
theorem dX6_origin_17 : decode cX6_origin 17 = .ok (.goto 4, 3) := by decide +kernel
theorem dX6_origin_20 : decode cX6_origin 20 = .ok (.iconst (-1), 1) := by decide +kernel
theorem dX6_origin_21 : decode cX6_origin 21 = .ok (.ireturn, 1) := by decide +kernel
set_option maxRecDepth 20000 in
theorem ggX6_hops_X6_isWord : GoodIn wsX6_hops wsX6_isWord := goodIn_r _ [4, 5, 6, 3, 7] (by decide +kernel) (by decide +kernel)
set_option maxRecDepth 20000 in
theorem gX6_hops_X6_isWord : GoodIn wsX6_hops (va_wsS RX6 96 yX6_isWord wsX6_isWord) := goodIn_app (goodIn_of _ (by decide +kernel)) ggX6_hops_X6_isWord
set_option maxRecDepth 20000 in
theorem ggX6_hops_X6_wordAt : GoodIn wsX6_hops wsX6_wordAt := goodIn_r _ [10] (by decide +kernel) (by decide +kernel)
set_option maxRecDepth 20000 in
theorem gX6_hops_X6_wordAt : GoodIn wsX6_hops (va_wsS RX6 34 yX6_wordAt wsX6_wordAt) := goodIn_app (goodIn_of _ (by decide +kernel)) ggX6_hops_X6_wordAt
set_option maxRecDepth 20000 in
theorem ggX6_hops_X6_mark : GoodIn wsX6_hops wsX6_mark := goodIn_r _ [14, 15, 16, 17, 18, 3, 19, 20, 21, 22, 23, 24, 25, 26, 27] (by decide +kernel) (by decide +kernel)
set_option maxRecDepth 20000 in
theorem gX6_hops_X6_mark : GoodIn wsX6_hops (wsV RX6 177 RX6 yX6_mark wsX6_mark) := goodIn_app (goodIn_of _ (by decide +kernel)) ggX6_hops_X6_mark
theorem dX6_hops_0 : decode cX6_hops 0 = .ok (.iload_n 1, 1) := by decide +kernel
theorem dX6_hops_1 : decode cX6_hops 1 = .ok (.invokestatic 96, 3) := by decide +kernel
theorem dX6_hops_4 : decode cX6_hops 4 = .ok (.ifCond .eq 16, 3) := by decide +kernel
theorem dX6_hops_7 : decode cX6_hops 7 = .ok (.aload_n 0, 1) := by decide +kernel
theorem dX6_hops_8 : decode cX6_hops 8 = .ok (.iconst 0, 1) := by decide +kernel
theorem dX6_hops_9 : decode cX6_hops 9 = .ok (.iload_n 1, 1) := by decide +kernel
theorem dX6_hops_10 : decode cX6_hops 10 = .ok (.invokestatic 34, 3) := by decide +kernel
theorem dX6_hops_13 : decode cX6_hops 13 = .ok (.iconst 2, 1) := by decide +kernel
theorem dX6_hops_14 : decode cX6_hops 14 = .ok (.invokevirtual 177, 3) := by decide +kernel
theorem dX6_hops_17 : decode cX6_hops 17 = .ok (.goto 4, 3) := by decide +kernel
theorem dX6_hops_20 : decode cX6_hops 20 = .ok (.iconst (-1), 1) := by decide +kernel
theorem dX6_hops_21 : decode cX6_hops 21 = .ok (.ireturn, 1) := by decide +kernel
set_option maxRecDepth 20000 in
theorem ggX6_mirrorValue_X6_isWord : GoodIn wsX6_mirrorValue wsX6_isWord := goodIn_r _ [5, 6, 7, 4, 8] (by decide +kernel) (by decide +kernel)
set_option maxRecDepth 20000 in
theorem gX6_mirrorValue_X6_isWord : GoodIn wsX6_mirrorValue (va_wsS RX6 96 yX6_isWord wsX6_isWord) := goodIn_app (goodIn_of _ (by decide +kernel)) ggX6_mirrorValue_X6_isWord
set_option maxRecDepth 20000 in
theorem ggX6_mirrorValue_X6_isMirrored : GoodIn wsX6_mirrorValue wsX6_isMirrored := goodIn_r _ [12, 1, 16, 17, 18, 19, 20, 21, 22, 23] (by decide +kernel) (by decide +kernel)
set_option maxRecDepth 20000 in
theorem gX6_mirrorValue_X6_isMirrored : GoodIn wsX6_mirrorValue (wsV RX6 42 RX6 yX6_isMirrored wsX6_isMirrored) := goodIn_app (goodIn_of _ (by decide +kernel)) ggX6_mirrorValue_X6_isMirrored
set_option maxRecDepth 20000 in
theorem ggX6_mirrorValue_X6_copyAt : GoodIn wsX6_mirrorValue wsX6_copyAt := goodIn_r _ [15] (by decide +kernel) (by decide +kernel)
set_option maxRecDepth 20000 in
theorem gX6_mirrorValue_X6_copyAt : GoodIn wsX6_mirrorValue (va_wsS RX6 46 yX6_copyAt wsX6_copyAt) := goodIn_app (goodIn_of _ (by decide +kernel)) ggX6_mirrorValue_X6_copyAt
theorem dX6_mirrorValue_0 : decode cX6_mirrorValue 0 = .ok (.iload_n 1, 1) := by decide +kernel
theorem dX6_mirrorValue_1 : decode cX6_mirrorValue 1 = .ok (.invokestatic 96, 3) := by decide +kernel
theorem dX6_mirrorValue_4 : decode cX6_mirrorValue 4 = .ok (.ifCond .ne 5, 3) := by decide +kernel
theorem dX6_mirrorValue_7 : decode cX6_mirrorValue 7 = .ok (.iconst (-1), 1) := by decide +kernel
theorem dX6_mirrorValue_8 : decode cX6_mirrorValue 8 = .ok (.ireturn, 1) := by decide +kernel
theorem dX6_mirrorValue_9 : decode cX6_mirrorValue 9 = .ok (.aload_n 0, 1) := by decide +kernel
theorem dX6_mirrorValue_10 : decode cX6_mirrorValue 10 = .ok (.iconst 0, 1) := by decide +kernel
theorem dX6_mirrorValue_11 : decode cX6_mirrorValue 11 = .ok (.iload_n 1, 1) := by decide +kernel
theorem dX6_mirrorValue_12 : decode cX6_mirrorValue 12 = .ok (.invokevirtual 42, 3) := by decide +kernel
theorem dX6_mirrorValue_15 : decode cX6_mirrorValue 15 = .ok (.ifCond .eq 16, 3) := by decide +kernel
theorem dX6_mirrorValue_18 : decode cX6_mirrorValue 18 = .ok (.aload_n 0, 1) := by decide +kernel
theorem dX6_mirrorValue_19 : decode cX6_mirrorValue 19 = .ok (.getfield 7, 3) := by decide +kernel
theorem dX6_mirrorValue_22 : decode cX6_mirrorValue 22 = .ok (.iconst 0, 1) := by decide +kernel
theorem dX6_mirrorValue_23 : decode cX6_mirrorValue 23 = .ok (.iload_n 1, 1) := by decide +kernel
theorem dX6_mirrorValue_24 : decode cX6_mirrorValue 24 = .ok (.invokestatic 46, 3) := by decide +kernel
theorem dX6_mirrorValue_27 : decode cX6_mirrorValue 27 = .ok (.iaload, 1) := by decide +kernel
theorem dX6_mirrorValue_28 : decode cX6_mirrorValue 28 = .ok (.goto 5, 3) := by decide +kernel
theorem dX6_mirrorValue_31 : decode cX6_mirrorValue 31 = .ok (.bipush (-6), 2) := by decide +kernel
theorem dX6_mirrorValue_33 : decode cX6_mirrorValue 33 = .ok (.ireturn, 1) := by decide +kernel
set_option maxRecDepth 20000 in
theorem ggX6_mirrorOrigin_X6_isWord : GoodIn wsX6_mirrorOrigin wsX6_isWord := goodIn_r _ [4, 5, 6, 3, 7] (by decide +kernel) (by decide +kernel)
set_option maxRecDepth 20000 in
theorem gX6_mirrorOrigin_X6_isWord : GoodIn wsX6_mirrorOrigin (va_wsS RX6 96 yX6_isWord wsX6_isWord) := goodIn_app (goodIn_of _ (by decide +kernel)) ggX6_mirrorOrigin_X6_isWord
set_option maxRecDepth 20000 in
theorem ggX6_mirrorOrigin_X6_isMirrored : GoodIn wsX6_mirrorOrigin wsX6_isMirrored := goodIn_r _ [11, 12, 24, 25, 26, 27, 28, 29, 30, 31] (by decide +kernel) (by decide +kernel)
set_option maxRecDepth 20000 in
theorem gX6_mirrorOrigin_X6_isMirrored : GoodIn wsX6_mirrorOrigin (wsV RX6 42 RX6 yX6_isMirrored wsX6_isMirrored) := goodIn_app (goodIn_of _ (by decide +kernel)) ggX6_mirrorOrigin_X6_isMirrored
set_option maxRecDepth 20000 in
theorem ggX6_mirrorOrigin_X6_copyAt : GoodIn wsX6_mirrorOrigin wsX6_copyAt := goodIn_r _ [15] (by decide +kernel) (by decide +kernel)
set_option maxRecDepth 20000 in
theorem gX6_mirrorOrigin_X6_copyAt : GoodIn wsX6_mirrorOrigin (va_wsS RX6 46 yX6_copyAt wsX6_copyAt) := goodIn_app (goodIn_of _ (by decide +kernel)) ggX6_mirrorOrigin_X6_copyAt
set_option maxRecDepth 20000 in
theorem ggX6_mirrorOrigin_X6_mark : GoodIn wsX6_mirrorOrigin wsX6_mark := goodIn_r _ [19, 12, 20, 21, 22, 3, 23, 24, 25, 26, 27, 28, 29, 30, 31] (by decide +kernel) (by decide +kernel)
set_option maxRecDepth 20000 in
theorem gX6_mirrorOrigin_X6_mark : GoodIn wsX6_mirrorOrigin (wsV RX6 177 RX6 yX6_mark wsX6_mark) := goodIn_app (goodIn_of _ (by decide +kernel)) ggX6_mirrorOrigin_X6_mark
theorem dX6_mirrorOrigin_0 : decode cX6_mirrorOrigin 0 = .ok (.iload_n 1, 1) := by decide +kernel
theorem dX6_mirrorOrigin_1 : decode cX6_mirrorOrigin 1 = .ok (.invokestatic 96, 3) := by decide +kernel
theorem dX6_mirrorOrigin_4 : decode cX6_mirrorOrigin 4 = .ok (.ifCond .ne 5, 3) := by decide +kernel
theorem dX6_mirrorOrigin_7 : decode cX6_mirrorOrigin 7 = .ok (.iconst (-1), 1) := by decide +kernel
theorem dX6_mirrorOrigin_8 : decode cX6_mirrorOrigin 8 = .ok (.ireturn, 1) := by decide +kernel
theorem dX6_mirrorOrigin_9 : decode cX6_mirrorOrigin 9 = .ok (.aload_n 0, 1) := by decide +kernel
theorem dX6_mirrorOrigin_10 : decode cX6_mirrorOrigin 10 = .ok (.iconst 0, 1) := by decide +kernel
theorem dX6_mirrorOrigin_11 : decode cX6_mirrorOrigin 11 = .ok (.iload_n 1, 1) := by decide +kernel
theorem dX6_mirrorOrigin_12 : decode cX6_mirrorOrigin 12 = .ok (.invokevirtual 42, 3) := by decide +kernel
theorem dX6_mirrorOrigin_15 : decode cX6_mirrorOrigin 15 = .ok (.ifCond .eq 16, 3) := by decide +kernel
theorem dX6_mirrorOrigin_18 : decode cX6_mirrorOrigin 18 = .ok (.aload_n 0, 1) := by decide +kernel
theorem dX6_mirrorOrigin_19 : decode cX6_mirrorOrigin 19 = .ok (.iconst 0, 1) := by decide +kernel
theorem dX6_mirrorOrigin_20 : decode cX6_mirrorOrigin 20 = .ok (.iload_n 1, 1) := by decide +kernel
theorem dX6_mirrorOrigin_21 : decode cX6_mirrorOrigin 21 = .ok (.invokestatic 46, 3) := by decide +kernel
theorem dX6_mirrorOrigin_24 : decode cX6_mirrorOrigin 24 = .ok (.iconst 1, 1) := by decide +kernel
theorem dX6_mirrorOrigin_25 : decode cX6_mirrorOrigin 25 = .ok (.invokevirtual 177, 3) := by decide +kernel
theorem dX6_mirrorOrigin_28 : decode cX6_mirrorOrigin 28 = .ok (.goto 5, 3) := by decide +kernel
theorem dX6_mirrorOrigin_31 : decode cX6_mirrorOrigin 31 = .ok (.bipush (-6), 2) := by decide +kernel
theorem dX6_mirrorOrigin_33 : decode cX6_mirrorOrigin 33 = .ok (.ireturn, 1) := by decide +kernel
set_option maxRecDepth 20000 in
theorem ggX6_register_X6_isOne : GoodIn wsX6_register wsX6_isOne := goodIn_r _ [5, 6, 7, 4, 8] (by decide +kernel) (by decide +kernel)
set_option maxRecDepth 20000 in
theorem gX6_register_X6_isOne : GoodIn wsX6_register (va_wsS RX6 113 yX6_isOne wsX6_isOne) := goodIn_app (goodIn_of _ (by decide +kernel)) ggX6_register_X6_isOne
set_option maxRecDepth 20000 in
theorem ggX6_register_X6_registerAt : GoodIn wsX6_register wsX6_registerAt := goodIn_r _ [11] (by decide +kernel) (by decide +kernel)
set_option maxRecDepth 20000 in
theorem gX6_register_X6_registerAt : GoodIn wsX6_register (va_wsS RX6 52 yX6_registerAt wsX6_registerAt) := goodIn_app (goodIn_of _ (by decide +kernel)) ggX6_register_X6_registerAt
theorem dX6_register_0 : decode cX6_register 0 = .ok (.iload_n 1, 1) := by decide +kernel
theorem dX6_register_1 : decode cX6_register 1 = .ok (.invokestatic 113, 3) := by decide +kernel
theorem dX6_register_4 : decode cX6_register 4 = .ok (.ifCond .eq 24, 3) := by decide +kernel
theorem dX6_register_7 : decode cX6_register 7 = .ok (.iload_n 2, 1) := by decide +kernel
theorem dX6_register_8 : decode cX6_register 8 = .ok (.invokestatic 113, 3) := by decide +kernel
theorem dX6_register_11 : decode cX6_register 11 = .ok (.ifCond .eq 17, 3) := by decide +kernel
theorem dX6_register_14 : decode cX6_register 14 = .ok (.aload_n 0, 1) := by decide +kernel
theorem dX6_register_15 : decode cX6_register 15 = .ok (.getfield 7, 3) := by decide +kernel
theorem dX6_register_18 : decode cX6_register 18 = .ok (.iconst 0, 1) := by decide +kernel
theorem dX6_register_19 : decode cX6_register 19 = .ok (.iload_n 1, 1) := by decide +kernel
theorem dX6_register_20 : decode cX6_register 20 = .ok (.iload_n 2, 1) := by decide +kernel
theorem dX6_register_21 : decode cX6_register 21 = .ok (.invokestatic 52, 3) := by decide +kernel
theorem dX6_register_24 : decode cX6_register 24 = .ok (.iaload, 1) := by decide +kernel
theorem dX6_register_25 : decode cX6_register 25 = .ok (.goto 4, 3) := by decide +kernel
theorem dX6_register_28 : decode cX6_register 28 = .ok (.iconst (-1), 1) := by decide +kernel
theorem dX6_register_29 : decode cX6_register 29 = .ok (.ireturn, 1) := by decide +kernel
set_option maxRecDepth 20000 in
theorem ggX6_registerOrigin_X6_isOne : GoodIn wsX6_registerOrigin wsX6_isOne := goodIn_r _ [4, 5, 6, 3, 7] (by decide +kernel) (by decide +kernel)
set_option maxRecDepth 20000 in
theorem gX6_registerOrigin_X6_isOne : GoodIn wsX6_registerOrigin (va_wsS RX6 113 yX6_isOne wsX6_isOne) := goodIn_app (goodIn_of _ (by decide +kernel)) ggX6_registerOrigin_X6_isOne
set_option maxRecDepth 20000 in
theorem ggX6_registerOrigin_X6_registerAt : GoodIn wsX6_registerOrigin wsX6_registerAt := goodIn_r _ [10] (by decide +kernel) (by decide +kernel)
set_option maxRecDepth 20000 in
theorem gX6_registerOrigin_X6_registerAt : GoodIn wsX6_registerOrigin (va_wsS RX6 52 yX6_registerAt wsX6_registerAt) := goodIn_app (goodIn_of _ (by decide +kernel)) ggX6_registerOrigin_X6_registerAt
set_option maxRecDepth 20000 in
theorem ggX6_registerOrigin_X6_mark : GoodIn wsX6_registerOrigin wsX6_mark := goodIn_r _ [14, 15, 16, 17, 18, 3, 19, 20, 21, 22, 23, 24, 25, 26, 27] (by decide +kernel) (by decide +kernel)
set_option maxRecDepth 20000 in
theorem gX6_registerOrigin_X6_mark : GoodIn wsX6_registerOrigin (wsV RX6 177 RX6 yX6_mark wsX6_mark) := goodIn_app (goodIn_of _ (by decide +kernel)) ggX6_registerOrigin_X6_mark
theorem dX6_registerOrigin_0 : decode cX6_registerOrigin 0 = .ok (.iload_n 1, 1) := by decide +kernel
theorem dX6_registerOrigin_1 : decode cX6_registerOrigin 1 = .ok (.invokestatic 113, 3) := by decide +kernel
theorem dX6_registerOrigin_4 : decode cX6_registerOrigin 4 = .ok (.ifCond .eq 24, 3) := by decide +kernel
theorem dX6_registerOrigin_7 : decode cX6_registerOrigin 7 = .ok (.iload_n 2, 1) := by decide +kernel
theorem dX6_registerOrigin_8 : decode cX6_registerOrigin 8 = .ok (.invokestatic 113, 3) := by decide +kernel
theorem dX6_registerOrigin_11 : decode cX6_registerOrigin 11 = .ok (.ifCond .eq 17, 3) := by decide +kernel
theorem dX6_registerOrigin_14 : decode cX6_registerOrigin 14 = .ok (.aload_n 0, 1) := by decide +kernel
theorem dX6_registerOrigin_15 : decode cX6_registerOrigin 15 = .ok (.iconst 0, 1) := by decide +kernel
theorem dX6_registerOrigin_16 : decode cX6_registerOrigin 16 = .ok (.iload_n 1, 1) := by decide +kernel
theorem dX6_registerOrigin_17 : decode cX6_registerOrigin 17 = .ok (.iload_n 2, 1) := by decide +kernel
theorem dX6_registerOrigin_18 : decode cX6_registerOrigin 18 = .ok (.invokestatic 52, 3) := by decide +kernel
theorem dX6_registerOrigin_21 : decode cX6_registerOrigin 21 = .ok (.iconst 1, 1) := by decide +kernel
theorem dX6_registerOrigin_22 : decode cX6_registerOrigin 22 = .ok (.invokevirtual 177, 3) := by decide +kernel
theorem dX6_registerOrigin_25 : decode cX6_registerOrigin 25 = .ok (.goto 4, 3) := by decide +kernel
theorem dX6_registerOrigin_28 : decode cX6_registerOrigin 28 = .ok (.iconst (-1), 1) := by decide +kernel
theorem dX6_registerOrigin_29 : decode cX6_registerOrigin 29 = .ok (.ireturn, 1) := by decide +kernel
set_option maxRecDepth 20000 in
theorem ggX6_registerHops_X6_isOne : GoodIn wsX6_registerHops wsX6_isOne := goodIn_r _ [4, 5, 6, 3, 7] (by decide +kernel) (by decide +kernel)
set_option maxRecDepth 20000 in
theorem gX6_registerHops_X6_isOne : GoodIn wsX6_registerHops (va_wsS RX6 113 yX6_isOne wsX6_isOne) := goodIn_app (goodIn_of _ (by decide +kernel)) ggX6_registerHops_X6_isOne
set_option maxRecDepth 20000 in
theorem ggX6_registerHops_X6_registerAt : GoodIn wsX6_registerHops wsX6_registerAt := goodIn_r _ [10] (by decide +kernel) (by decide +kernel)
set_option maxRecDepth 20000 in
theorem gX6_registerHops_X6_registerAt : GoodIn wsX6_registerHops (va_wsS RX6 52 yX6_registerAt wsX6_registerAt) := goodIn_app (goodIn_of _ (by decide +kernel)) ggX6_registerHops_X6_registerAt
set_option maxRecDepth 20000 in
theorem ggX6_registerHops_X6_mark : GoodIn wsX6_registerHops wsX6_mark := goodIn_r _ [14, 15, 16, 17, 18, 3, 19, 20, 21, 22, 23, 24, 25, 26, 27] (by decide +kernel) (by decide +kernel)
set_option maxRecDepth 20000 in
theorem gX6_registerHops_X6_mark : GoodIn wsX6_registerHops (wsV RX6 177 RX6 yX6_mark wsX6_mark) := goodIn_app (goodIn_of _ (by decide +kernel)) ggX6_registerHops_X6_mark
theorem dX6_registerHops_0 : decode cX6_registerHops 0 = .ok (.iload_n 1, 1) := by decide +kernel
theorem dX6_registerHops_1 : decode cX6_registerHops 1 = .ok (.invokestatic 113, 3) := by decide +kernel
theorem dX6_registerHops_4 : decode cX6_registerHops 4 = .ok (.ifCond .eq 24, 3) := by decide +kernel
theorem dX6_registerHops_7 : decode cX6_registerHops 7 = .ok (.iload_n 2, 1) := by decide +kernel
theorem dX6_registerHops_8 : decode cX6_registerHops 8 = .ok (.invokestatic 113, 3) := by decide +kernel
theorem dX6_registerHops_11 : decode cX6_registerHops 11 = .ok (.ifCond .eq 17, 3) := by decide +kernel
theorem dX6_registerHops_14 : decode cX6_registerHops 14 = .ok (.aload_n 0, 1) := by decide +kernel
theorem dX6_registerHops_15 : decode cX6_registerHops 15 = .ok (.iconst 0, 1) := by decide +kernel
theorem dX6_registerHops_16 : decode cX6_registerHops 16 = .ok (.iload_n 1, 1) := by decide +kernel
theorem dX6_registerHops_17 : decode cX6_registerHops 17 = .ok (.iload_n 2, 1) := by decide +kernel
theorem dX6_registerHops_18 : decode cX6_registerHops 18 = .ok (.invokestatic 52, 3) := by decide +kernel
theorem dX6_registerHops_21 : decode cX6_registerHops 21 = .ok (.iconst 2, 1) := by decide +kernel
theorem dX6_registerHops_22 : decode cX6_registerHops 22 = .ok (.invokevirtual 177, 3) := by decide +kernel
theorem dX6_registerHops_25 : decode cX6_registerHops 25 = .ok (.goto 4, 3) := by decide +kernel
theorem dX6_registerHops_28 : decode cX6_registerHops 28 = .ok (.iconst (-1), 1) := by decide +kernel
theorem dX6_registerHops_29 : decode cX6_registerHops 29 = .ok (.ireturn, 1) := by decide +kernel
set_option maxRecDepth 20000 in
theorem ggX6_mode_X6_isOne : GoodIn wsX6_mode wsX6_isOne := goodIn_r _ [5, 6, 7, 4, 8] (by decide +kernel) (by decide +kernel)
set_option maxRecDepth 20000 in
theorem gX6_mode_X6_isOne : GoodIn wsX6_mode (va_wsS RX6 113 yX6_isOne wsX6_isOne) := goodIn_app (goodIn_of _ (by decide +kernel)) ggX6_mode_X6_isOne
theorem dX6_mode_0 : decode cX6_mode 0 = .ok (.iload_n 1, 1) := by decide +kernel
theorem dX6_mode_1 : decode cX6_mode 1 = .ok (.invokestatic 113, 3) := by decide +kernel
theorem dX6_mode_4 : decode cX6_mode 4 = .ok (.ifCond .eq 16, 3) := by decide +kernel
theorem dX6_mode_7 : decode cX6_mode 7 = .ok (.aload_n 0, 1) := by decide +kernel
theorem dX6_mode_8 : decode cX6_mode 8 = .ok (.getfield 7, 3) := by decide +kernel
theorem dX6_mode_11 : decode cX6_mode 11 = .ok (.sipush 248, 3) := by decide +kernel
theorem dX6_mode_14 : decode cX6_mode 14 = .ok (.iload_n 1, 1) := by decide +kernel
theorem dX6_mode_15 : decode cX6_mode 15 = .ok (.iadd, 1) := by decide +kernel
theorem dX6_mode_16 : decode cX6_mode 16 = .ok (.iaload, 1) := by decide +kernel
theorem dX6_mode_17 : decode cX6_mode 17 = .ok (.goto 4, 3) := by decide +kernel
theorem dX6_mode_20 : decode cX6_mode 20 = .ok (.iconst (-1), 1) := by decide +kernel
theorem dX6_mode_21 : decode cX6_mode 21 = .ok (.ireturn, 1) := by decide +kernel
set_option maxRecDepth 20000 in
theorem ggX6_stopped_X6_isOne : GoodIn wsX6_stopped wsX6_isOne := goodIn_r _ [5, 6, 7, 4, 8] (by decide +kernel) (by decide +kernel)
set_option maxRecDepth 20000 in
theorem gX6_stopped_X6_isOne : GoodIn wsX6_stopped (va_wsS RX6 113 yX6_isOne wsX6_isOne) := goodIn_app (goodIn_of _ (by decide +kernel)) ggX6_stopped_X6_isOne
theorem dX6_stopped_0 : decode cX6_stopped 0 = .ok (.iload_n 1, 1) := by decide +kernel
theorem dX6_stopped_1 : decode cX6_stopped 1 = .ok (.invokestatic 113, 3) := by decide +kernel
theorem dX6_stopped_4 : decode cX6_stopped 4 = .ok (.ifCond .eq 16, 3) := by decide +kernel
theorem dX6_stopped_7 : decode cX6_stopped 7 = .ok (.aload_n 0, 1) := by decide +kernel
theorem dX6_stopped_8 : decode cX6_stopped 8 = .ok (.getfield 7, 3) := by decide +kernel
theorem dX6_stopped_11 : decode cX6_stopped 11 = .ok (.sipush 252, 3) := by decide +kernel
theorem dX6_stopped_14 : decode cX6_stopped 14 = .ok (.iload_n 1, 1) := by decide +kernel
theorem dX6_stopped_15 : decode cX6_stopped 15 = .ok (.iadd, 1) := by decide +kernel
theorem dX6_stopped_16 : decode cX6_stopped 16 = .ok (.iaload, 1) := by decide +kernel
theorem dX6_stopped_17 : decode cX6_stopped 17 = .ok (.goto 4, 3) := by decide +kernel
theorem dX6_stopped_20 : decode cX6_stopped 20 = .ok (.iconst (-1), 1) := by decide +kernel
theorem dX6_stopped_21 : decode cX6_stopped 21 = .ok (.ireturn, 1) := by decide +kernel
theorem dX6_injections_0 : decode cX6_injections 0 = .ok (.aload_n 0, 1) := by decide +kernel
theorem dX6_injections_1 : decode cX6_injections 1 = .ok (.getfield 7, 3) := by decide +kernel
theorem dX6_injections_4 : decode cX6_injections 4 = .ok (.sipush 256, 3) := by decide +kernel
theorem dX6_injections_7 : decode cX6_injections 7 = .ok (.iaload, 1) := by decide +kernel
theorem dX6_injections_8 : decode cX6_injections 8 = .ok (.ireturn, 1) := by decide +kernel
set_option maxRecDepth 20000 in
theorem ggX6_isOrigin_X6_in : GoodIn wsX6_isOrigin wsX6_in := goodIn_r _ [5] (by decide +kernel) (by decide +kernel)
set_option maxRecDepth 20000 in
theorem gX6_isOrigin_X6_in : GoodIn wsX6_isOrigin (va_wsS RX6 22 yX6_in wsX6_in) := goodIn_app (goodIn_of _ (by decide +kernel)) ggX6_isOrigin_X6_in
theorem dX6_isOrigin_0 : decode cX6_isOrigin 0 = .ok (.iload_n 1, 1) := by decide +kernel
theorem dX6_isOrigin_1 : decode cX6_isOrigin 1 = .ok (.iconst 0, 1) := by decide +kernel
theorem dX6_isOrigin_2 : decode cX6_isOrigin 2 = .ok (.aload_n 0, 1) := by decide +kernel
theorem dX6_isOrigin_3 : decode cX6_isOrigin 3 = .ok (.getfield 7, 3) := by decide +kernel
theorem dX6_isOrigin_6 : decode cX6_isOrigin 6 = .ok (.sipush 256, 3) := by decide +kernel
theorem dX6_isOrigin_9 : decode cX6_isOrigin 9 = .ok (.iaload, 1) := by decide +kernel
theorem dX6_isOrigin_10 : decode cX6_isOrigin 10 = .ok (.iconst 1, 1) := by decide +kernel
theorem dX6_isOrigin_11 : decode cX6_isOrigin 11 = .ok (.isub, 1) := by decide +kernel
theorem dX6_isOrigin_12 : decode cX6_isOrigin 12 = .ok (.invokestatic 22, 3) := by decide +kernel
theorem dX6_isOrigin_15 : decode cX6_isOrigin 15 = .ok (.ireturn, 1) := by decide +kernel
set_option maxRecDepth 20000 in
theorem ggX6_source_X6_isOrigin : GoodIn wsX6_source wsX6_isOrigin := goodIn_r _ [6, 1, 7, 8, 5, 9, 10, 11, 12, 13, 14, 15, 16, 17] (by decide +kernel) (by decide +kernel)
set_option maxRecDepth 20000 in
theorem gX6_source_X6_isOrigin : GoodIn wsX6_source (wsV RX6 180 RX6 yX6_isOrigin wsX6_isOrigin) := goodIn_app (goodIn_of _ (by decide +kernel)) ggX6_source_X6_isOrigin
theorem dX6_source_0 : decode cX6_source 0 = .ok (.aload_n 0, 1) := by decide +kernel
theorem dX6_source_1 : decode cX6_source 1 = .ok (.iload_n 1, 1) := by decide +kernel
theorem dX6_source_2 : decode cX6_source 2 = .ok (.invokevirtual 180, 3) := by decide +kernel
theorem dX6_source_5 : decode cX6_source 5 = .ok (.ifCond .eq 16, 3) := by decide +kernel
theorem dX6_source_8 : decode cX6_source 8 = .ok (.aload_n 0, 1) := by decide +kernel
theorem dX6_source_9 : decode cX6_source 9 = .ok (.getfield 7, 3) := by decide +kernel
theorem dX6_source_12 : decode cX6_source 12 = .ok (.sipush 257, 3) := by decide +kernel
theorem dX6_source_15 : decode cX6_source 15 = .ok (.iload_n 1, 1) := by decide +kernel
theorem dX6_source_16 : decode cX6_source 16 = .ok (.iadd, 1) := by decide +kernel
theorem dX6_source_17 : decode cX6_source 17 = .ok (.iaload, 1) := by decide +kernel
theorem dX6_source_18 : decode cX6_source 18 = .ok (.goto 4, 3) := by decide +kernel
theorem dX6_source_21 : decode cX6_source 21 = .ok (.iconst (-1), 1) := by decide +kernel
theorem dX6_source_22 : decode cX6_source 22 = .ok (.ireturn, 1) := by decide +kernel
theorem dX6_faults_0 : decode cX6_faults 0 = .ok (.aload_n 0, 1) := by decide +kernel
theorem dX6_faults_1 : decode cX6_faults 1 = .ok (.getfield 7, 3) := by decide +kernel
theorem dX6_faults_4 : decode cX6_faults 4 = .ok (.sipush 310, 3) := by decide +kernel
theorem dX6_faults_7 : decode cX6_faults 7 = .ok (.iaload, 1) := by decide +kernel
theorem dX6_faults_8 : decode cX6_faults 8 = .ok (.ireturn, 1) := by decide +kernel
set_option maxRecDepth 20000 in
theorem ggX6_log_X6_in : GoodIn wsX6_log wsX6_in := goodIn_r _ [5] (by decide +kernel) (by decide +kernel)
set_option maxRecDepth 20000 in
theorem gX6_log_X6_in : GoodIn wsX6_log (va_wsS RX6 22 yX6_in wsX6_in) := goodIn_app (goodIn_of _ (by decide +kernel)) ggX6_log_X6_in
theorem dX6_log_0 : decode cX6_log 0 = .ok (.iload_n 1, 1) := by decide +kernel
theorem dX6_log_1 : decode cX6_log 1 = .ok (.ifCond .lt 12, 3) := by decide +kernel
theorem dX6_log_4 : decode cX6_log 4 = .ok (.iload_n 2, 1) := by decide +kernel
theorem dX6_log_5 : decode cX6_log 5 = .ok (.iconst 0, 1) := by decide +kernel
theorem dX6_log_6 : decode cX6_log 6 = .ok (.iconst 3, 1) := by decide +kernel
theorem dX6_log_7 : decode cX6_log 7 = .ok (.invokestatic 22, 3) := by decide +kernel
theorem dX6_log_10 : decode cX6_log 10 = .ok (.ifCond .ne 6, 3) := by decide +kernel
theorem dX6_log_13 : decode cX6_log 13 = .ok (.bipush (-2), 2) := by decide +kernel
theorem dX6_log_15 : decode cX6_log 15 = .ok (.ireturn, 1) := by decide +kernel
theorem dX6_log_16 : decode cX6_log 16 = .ok (.iload_n 1, 1) := by decide +kernel
theorem dX6_log_17 : decode cX6_log 17 = .ok (.aload_n 0, 1) := by decide +kernel
theorem dX6_log_18 : decode cX6_log 18 = .ok (.getfield 7, 3) := by decide +kernel
theorem dX6_log_21 : decode cX6_log 21 = .ok (.sipush 277, 3) := by decide +kernel
theorem dX6_log_24 : decode cX6_log 24 = .ok (.iaload, 1) := by decide +kernel
theorem dX6_log_25 : decode cX6_log 25 = .ok (.if_icmp .ge 20, 3) := by decide +kernel
theorem dX6_log_28 : decode cX6_log 28 = .ok (.aload_n 0, 1) := by decide +kernel
theorem dX6_log_29 : decode cX6_log 29 = .ok (.getfield 7, 3) := by decide +kernel
theorem dX6_log_32 : decode cX6_log 32 = .ok (.sipush 278, 3) := by decide +kernel
theorem dX6_log_35 : decode cX6_log 35 = .ok (.iconst 4, 1) := by decide +kernel
theorem dX6_log_36 : decode cX6_log 36 = .ok (.iload_n 1, 1) := by decide +kernel
theorem dX6_log_37 : decode cX6_log 37 = .ok (.imul, 1) := by decide +kernel
theorem dX6_log_38 : decode cX6_log 38 = .ok (.iadd, 1) := by decide +kernel
theorem dX6_log_39 : decode cX6_log 39 = .ok (.iload_n 2, 1) := by decide +kernel
theorem dX6_log_40 : decode cX6_log 40 = .ok (.iadd, 1) := by decide +kernel
theorem dX6_log_41 : decode cX6_log 41 = .ok (.iaload, 1) := by decide +kernel
theorem dX6_log_42 : decode cX6_log 42 = .ok (.goto 5, 3) := by decide +kernel
theorem dX6_log_45 : decode cX6_log 45 = .ok (.bipush (-6), 2) := by decide +kernel
theorem dX6_log_47 : decode cX6_log 47 = .ok (.ireturn, 1) := by decide +kernel
theorem dX6_healed_0 : decode cX6_healed 0 = .ok (.aload_n 0, 1) := by decide +kernel
theorem dX6_healed_1 : decode cX6_healed 1 = .ok (.getfield 7, 3) := by decide +kernel
theorem dX6_healed_4 : decode cX6_healed 4 = .ok (.sipush 311, 3) := by decide +kernel
theorem dX6_healed_7 : decode cX6_healed 7 = .ok (.iaload, 1) := by decide +kernel
theorem dX6_healed_8 : decode cX6_healed 8 = .ok (.ireturn, 1) := by decide +kernel
set_option maxRecDepth 20000 in
theorem ggX6_poisonedWords_X6_wordAt : GoodIn wsX6_poisonedWords wsX6_wordAt := goodIn_r _ [4] (by decide +kernel) (by decide +kernel)
set_option maxRecDepth 20000 in
theorem gX6_poisonedWords_X6_wordAt : GoodIn wsX6_poisonedWords (va_wsS RX6 34 yX6_wordAt wsX6_wordAt) := goodIn_app (goodIn_of _ (by decide +kernel)) ggX6_poisonedWords_X6_wordAt
set_option maxRecDepth 20000 in
theorem ggX6_poisonedWords_X6_isPoisoned : GoodIn wsX6_poisonedWords wsX6_isPoisoned := goodIn_r _ [8, 9, 10, 11, 12, 13, 14, 15, 16, 17] (by decide +kernel) (by decide +kernel)
set_option maxRecDepth 20000 in
theorem gX6_poisonedWords_X6_isPoisoned : GoodIn wsX6_poisonedWords (wsV RX6 38 RX6 yX6_isPoisoned wsX6_isPoisoned) := goodIn_app (goodIn_of _ (by decide +kernel)) ggX6_poisonedWords_X6_isPoisoned
theorem dX6_poisonedWords_0 : decode cX6_poisonedWords 0 = .ok (.iconst 0, 1) := by decide +kernel
theorem dX6_poisonedWords_1 : decode cX6_poisonedWords 1 = .ok (.istore_n 3, 1) := by decide +kernel
theorem dX6_poisonedWords_2 : decode cX6_poisonedWords 2 = .ok (.iload_n 1, 1) := by decide +kernel
theorem dX6_poisonedWords_3 : decode cX6_poisonedWords 3 = .ok (.istore 4, 2) := by decide +kernel
theorem dX6_poisonedWords_5 : decode cX6_poisonedWords 5 = .ok (.iload 4, 2) := by decide +kernel
theorem dX6_poisonedWords_7 : decode cX6_poisonedWords 7 = .ok (.iload_n 2, 1) := by decide +kernel
theorem dX6_poisonedWords_8 : decode cX6_poisonedWords 8 = .ok (.if_icmp .ge 30, 3) := by decide +kernel
theorem dX6_poisonedWords_11 : decode cX6_poisonedWords 11 = .ok (.iload_n 3, 1) := by decide +kernel
theorem dX6_poisonedWords_12 : decode cX6_poisonedWords 12 = .ok (.aload_n 0, 1) := by decide +kernel
theorem dX6_poisonedWords_13 : decode cX6_poisonedWords 13 = .ok (.iconst 0, 1) := by decide +kernel
theorem dX6_poisonedWords_14 : decode cX6_poisonedWords 14 = .ok (.iload 4, 2) := by decide +kernel
theorem dX6_poisonedWords_16 : decode cX6_poisonedWords 16 = .ok (.invokestatic 34, 3) := by decide +kernel
theorem dX6_poisonedWords_19 : decode cX6_poisonedWords 19 = .ok (.invokevirtual 38, 3) := by decide +kernel
theorem dX6_poisonedWords_22 : decode cX6_poisonedWords 22 = .ok (.ifCond .eq 7, 3) := by decide +kernel
theorem dX6_poisonedWords_25 : decode cX6_poisonedWords 25 = .ok (.iconst 1, 1) := by decide +kernel
theorem dX6_poisonedWords_26 : decode cX6_poisonedWords 26 = .ok (.goto 4, 3) := by decide +kernel
theorem dX6_poisonedWords_29 : decode cX6_poisonedWords 29 = .ok (.iconst 0, 1) := by decide +kernel
theorem dX6_poisonedWords_30 : decode cX6_poisonedWords 30 = .ok (.iadd, 1) := by decide +kernel
theorem dX6_poisonedWords_31 : decode cX6_poisonedWords 31 = .ok (.istore_n 3, 1) := by decide +kernel
theorem dX6_poisonedWords_32 : decode cX6_poisonedWords 32 = .ok (.iinc 4 1, 3) := by decide +kernel
theorem dX6_poisonedWords_35 : decode cX6_poisonedWords 35 = .ok (.goto (-30), 3) := by decide +kernel
theorem dX6_poisonedWords_38 : decode cX6_poisonedWords 38 = .ok (.iload_n 3, 1) := by decide +kernel
theorem dX6_poisonedWords_39 : decode cX6_poisonedWords 39 = .ok (.ireturn, 1) := by decide +kernel
set_option maxRecDepth 20000 in
theorem ggX6_poisoned_X6_isPage : GoodIn wsX6_poisoned wsX6_isPage := goodIn_r _ [4, 5, 6, 3, 7] (by decide +kernel) (by decide +kernel)
set_option maxRecDepth 20000 in
theorem gX6_poisoned_X6_isPage : GoodIn wsX6_poisoned (va_wsS RX6 110 yX6_isPage wsX6_isPage) := goodIn_app (goodIn_of _ (by decide +kernel)) ggX6_poisoned_X6_isPage
set_option maxRecDepth 20000 in
theorem ggX6_poisoned_X6_poisonedWords : GoodIn wsX6_poisoned wsX6_poisonedWords := goodIn_r _ [11, 12, 13, 3, 14, 15, 16, 17, 18, 19, 20, 21, 22, 23, 24, 25, 26, 27] (by decide +kernel) (by decide +kernel)
set_option maxRecDepth 20000 in
theorem gX6_poisoned_X6_poisonedWords : GoodIn wsX6_poisoned (wsV RX6 183 RX6 yX6_poisonedWords wsX6_poisonedWords) := goodIn_app (goodIn_of _ (by decide +kernel)) ggX6_poisoned_X6_poisonedWords
theorem dX6_poisoned_0 : decode cX6_poisoned 0 = .ok (.iload_n 1, 1) := by decide +kernel
theorem dX6_poisoned_1 : decode cX6_poisoned 1 = .ok (.invokestatic 110, 3) := by decide +kernel
theorem dX6_poisoned_4 : decode cX6_poisoned 4 = .ok (.ifCond .eq 18, 3) := by decide +kernel
theorem dX6_poisoned_7 : decode cX6_poisoned 7 = .ok (.aload_n 0, 1) := by decide +kernel
theorem dX6_poisoned_8 : decode cX6_poisoned 8 = .ok (.iconst 4, 1) := by decide +kernel
theorem dX6_poisoned_9 : decode cX6_poisoned 9 = .ok (.iload_n 1, 1) := by decide +kernel
theorem dX6_poisoned_10 : decode cX6_poisoned 10 = .ok (.imul, 1) := by decide +kernel
theorem dX6_poisoned_11 : decode cX6_poisoned 11 = .ok (.iconst 4, 1) := by decide +kernel
theorem dX6_poisoned_12 : decode cX6_poisoned 12 = .ok (.iload_n 1, 1) := by decide +kernel
theorem dX6_poisoned_13 : decode cX6_poisoned 13 = .ok (.imul, 1) := by decide +kernel
theorem dX6_poisoned_14 : decode cX6_poisoned 14 = .ok (.iconst 4, 1) := by decide +kernel
theorem dX6_poisoned_15 : decode cX6_poisoned 15 = .ok (.iadd, 1) := by decide +kernel
theorem dX6_poisoned_16 : decode cX6_poisoned 16 = .ok (.invokevirtual 183, 3) := by decide +kernel
theorem dX6_poisoned_19 : decode cX6_poisoned 19 = .ok (.goto 4, 3) := by decide +kernel
theorem dX6_poisoned_22 : decode cX6_poisoned 22 = .ok (.iconst (-1), 1) := by decide +kernel
theorem dX6_poisoned_23 : decode cX6_poisoned 23 = .ok (.ireturn, 1) := by decide +kernel
theorem dX6_carries_0 : decode cX6_carries 0 = .ok (.aload_n 0, 1) := by decide +kernel
theorem dX6_carries_1 : decode cX6_carries 1 = .ok (.getfield 7, 3) := by decide +kernel
theorem dX6_carries_4 : decode cX6_carries 4 = .ok (.iload_n 1, 1) := by decide +kernel
theorem dX6_carries_5 : decode cX6_carries 5 = .ok (.iconst 1, 1) := by decide +kernel
theorem dX6_carries_6 : decode cX6_carries 6 = .ok (.iadd, 1) := by decide +kernel
theorem dX6_carries_7 : decode cX6_carries 7 = .ok (.iaload, 1) := by decide +kernel
theorem dX6_carries_8 : decode cX6_carries 8 = .ok (.iload_n 2, 1) := by decide +kernel
theorem dX6_carries_9 : decode cX6_carries 9 = .ok (.if_icmp .ne 20, 3) := by decide +kernel
theorem dX6_carries_12 : decode cX6_carries 12 = .ok (.iload_n 1, 1) := by decide +kernel
theorem dX6_carries_13 : decode cX6_carries 13 = .ok (.bipush 96, 2) := by decide +kernel
theorem dX6_carries_15 : decode cX6_carries 15 = .ok (.if_icmp .lt 10, 3) := by decide +kernel
theorem dX6_carries_18 : decode cX6_carries 18 = .ok (.iload_n 1, 1) := by decide +kernel
theorem dX6_carries_19 : decode cX6_carries 19 = .ok (.sipush 192, 3) := by decide +kernel
theorem dX6_carries_22 : decode cX6_carries 22 = .ok (.if_icmp .lt 7, 3) := by decide +kernel
theorem dX6_carries_25 : decode cX6_carries 25 = .ok (.iconst 1, 1) := by decide +kernel
theorem dX6_carries_26 : decode cX6_carries 26 = .ok (.goto 4, 3) := by decide +kernel
theorem dX6_carries_29 : decode cX6_carries 29 = .ok (.iconst 0, 1) := by decide +kernel
theorem dX6_carries_30 : decode cX6_carries 30 = .ok (.ireturn, 1) := by decide +kernel
set_option maxRecDepth 20000 in
theorem ggX6_carriersOf_X6_carries : GoodIn wsX6_carriersOf wsX6_carries := goodIn_r _ [5, 6, 7, 8, 9, 10, 11, 12, 13, 14] (by decide +kernel) (by decide +kernel)
set_option maxRecDepth 20000 in
theorem gX6_carriersOf_X6_carries : GoodIn wsX6_carriersOf (wsV RX6 186 RX6 yX6_carries wsX6_carries) := goodIn_app (goodIn_of _ (by decide +kernel)) ggX6_carriersOf_X6_carries
theorem dX6_carriersOf_0 : decode cX6_carriersOf 0 = .ok (.iconst 0, 1) := by decide +kernel
theorem dX6_carriersOf_1 : decode cX6_carriersOf 1 = .ok (.istore_n 2, 1) := by decide +kernel
theorem dX6_carriersOf_2 : decode cX6_carriersOf 2 = .ok (.iconst 0, 1) := by decide +kernel
theorem dX6_carriersOf_3 : decode cX6_carriersOf 3 = .ok (.istore_n 3, 1) := by decide +kernel
theorem dX6_carriersOf_4 : decode cX6_carriersOf 4 = .ok (.iload_n 3, 1) := by decide +kernel
theorem dX6_carriersOf_5 : decode cX6_carriersOf 5 = .ok (.sipush 240, 3) := by decide +kernel
theorem dX6_carriersOf_8 : decode cX6_carriersOf 8 = .ok (.if_icmp .ge 26, 3) := by decide +kernel
theorem dX6_carriersOf_11 : decode cX6_carriersOf 11 = .ok (.iload_n 2, 1) := by decide +kernel
theorem dX6_carriersOf_12 : decode cX6_carriersOf 12 = .ok (.aload_n 0, 1) := by decide +kernel
theorem dX6_carriersOf_13 : decode cX6_carriersOf 13 = .ok (.iload_n 3, 1) := by decide +kernel
theorem dX6_carriersOf_14 : decode cX6_carriersOf 14 = .ok (.iload_n 1, 1) := by decide +kernel
theorem dX6_carriersOf_15 : decode cX6_carriersOf 15 = .ok (.invokevirtual 186, 3) := by decide +kernel
theorem dX6_carriersOf_18 : decode cX6_carriersOf 18 = .ok (.ifCond .eq 7, 3) := by decide +kernel
theorem dX6_carriersOf_21 : decode cX6_carriersOf 21 = .ok (.iconst 1, 1) := by decide +kernel
theorem dX6_carriersOf_22 : decode cX6_carriersOf 22 = .ok (.goto 4, 3) := by decide +kernel
theorem dX6_carriersOf_25 : decode cX6_carriersOf 25 = .ok (.iconst 0, 1) := by decide +kernel
theorem dX6_carriersOf_26 : decode cX6_carriersOf 26 = .ok (.iadd, 1) := by decide +kernel
theorem dX6_carriersOf_27 : decode cX6_carriersOf 27 = .ok (.istore_n 2, 1) := by decide +kernel
theorem dX6_carriersOf_28 : decode cX6_carriersOf 28 = .ok (.iinc 3 3, 3) := by decide +kernel
theorem dX6_carriersOf_31 : decode cX6_carriersOf 31 = .ok (.goto (-27), 3) := by decide +kernel
theorem dX6_carriersOf_34 : decode cX6_carriersOf 34 = .ok (.iload_n 2, 1) := by decide +kernel
theorem dX6_carriersOf_35 : decode cX6_carriersOf 35 = .ok (.ireturn, 1) := by decide +kernel
set_option maxRecDepth 20000 in
theorem ggX6_carriers_X6_isOrigin : GoodIn wsX6_carriers wsX6_isOrigin := goodIn_r _ [5, 6, 7, 8, 4, 9, 18, 19, 20, 21, 22, 23, 24, 25] (by decide +kernel) (by decide +kernel)
set_option maxRecDepth 20000 in
theorem gX6_carriers_X6_isOrigin : GoodIn wsX6_carriers (wsV RX6 180 RX6 yX6_isOrigin wsX6_isOrigin) := goodIn_app (goodIn_of _ (by decide +kernel)) ggX6_carriers_X6_isOrigin
set_option maxRecDepth 20000 in
theorem ggX6_carriers_X6_carriersOf : GoodIn wsX6_carriers wsX6_carriersOf := goodIn_r _ [13, 14, 15, 16, 4, 17, 6, 18, 19, 20, 21, 22, 23, 24, 25] (by decide +kernel) (by decide +kernel)
set_option maxRecDepth 20000 in
theorem gX6_carriers_X6_carriersOf : GoodIn wsX6_carriers (wsV RX6 189 RX6 yX6_carriersOf wsX6_carriersOf) := goodIn_app (goodIn_of _ (by decide +kernel)) ggX6_carriers_X6_carriersOf
theorem dX6_carriers_0 : decode cX6_carriers 0 = .ok (.aload_n 0, 1) := by decide +kernel
theorem dX6_carriers_1 : decode cX6_carriers 1 = .ok (.iload_n 1, 1) := by decide +kernel
theorem dX6_carriers_2 : decode cX6_carriers 2 = .ok (.invokevirtual 180, 3) := by decide +kernel
theorem dX6_carriers_5 : decode cX6_carriers 5 = .ok (.ifCond .eq 11, 3) := by decide +kernel
theorem dX6_carriers_8 : decode cX6_carriers 8 = .ok (.aload_n 0, 1) := by decide +kernel
theorem dX6_carriers_9 : decode cX6_carriers 9 = .ok (.iload_n 1, 1) := by decide +kernel
theorem dX6_carriers_10 : decode cX6_carriers 10 = .ok (.invokevirtual 189, 3) := by decide +kernel
theorem dX6_carriers_13 : decode cX6_carriers 13 = .ok (.goto 4, 3) := by decide +kernel
theorem dX6_carriers_16 : decode cX6_carriers 16 = .ok (.iconst (-1), 1) := by decide +kernel
theorem dX6_carriers_17 : decode cX6_carriers 17 = .ok (.ireturn, 1) := by decide +kernel
set_option maxRecDepth 20000 in
theorem ggX6_farthest_X6_isOrigin : GoodIn wsX6_farthest wsX6_isOrigin := goodIn_r _ [6, 1, 7, 8, 5, 9, 14, 15, 16, 17, 18, 19, 20, 21] (by decide +kernel) (by decide +kernel)
set_option maxRecDepth 20000 in
theorem gX6_farthest_X6_isOrigin : GoodIn wsX6_farthest (wsV RX6 180 RX6 yX6_isOrigin wsX6_isOrigin) := goodIn_app (goodIn_of _ (by decide +kernel)) ggX6_farthest_X6_isOrigin
set_option maxRecDepth 20000 in
theorem ggX6_farthest_X6_carries : GoodIn wsX6_farthest wsX6_carries := goodIn_r _ [13, 1, 14, 15, 16, 17, 18, 19, 20, 21] (by decide +kernel) (by decide +kernel)
set_option maxRecDepth 20000 in
theorem gX6_farthest_X6_carries : GoodIn wsX6_farthest (wsV RX6 186 RX6 yX6_carries wsX6_carries) := goodIn_app (goodIn_of _ (by decide +kernel)) ggX6_farthest_X6_carries
theorem dX6_farthest_0 : decode cX6_farthest 0 = .ok (.aload_n 0, 1) := by decide +kernel
theorem dX6_farthest_1 : decode cX6_farthest 1 = .ok (.iload_n 1, 1) := by decide +kernel
theorem dX6_farthest_2 : decode cX6_farthest 2 = .ok (.invokevirtual 180, 3) := by decide +kernel
theorem dX6_farthest_5 : decode cX6_farthest 5 = .ok (.ifCond .ne 5, 3) := by decide +kernel
theorem dX6_farthest_8 : decode cX6_farthest 8 = .ok (.iconst (-1), 1) := by decide +kernel
theorem dX6_farthest_9 : decode cX6_farthest 9 = .ok (.ireturn, 1) := by decide +kernel
theorem dX6_farthest_10 : decode cX6_farthest 10 = .ok (.bipush (-6), 2) := by decide +kernel
theorem dX6_farthest_12 : decode cX6_farthest 12 = .ok (.istore_n 2, 1) := by decide +kernel
theorem dX6_farthest_13 : decode cX6_farthest 13 = .ok (.iconst 0, 1) := by decide +kernel
theorem dX6_farthest_14 : decode cX6_farthest 14 = .ok (.istore_n 3, 1) := by decide +kernel
theorem dX6_farthest_15 : decode cX6_farthest 15 = .ok (.iload_n 3, 1) := by decide +kernel
theorem dX6_farthest_16 : decode cX6_farthest 16 = .ok (.sipush 240, 3) := by decide +kernel
theorem dX6_farthest_19 : decode cX6_farthest 19 = .ok (.if_icmp .ge 43, 3) := by decide +kernel
theorem dX6_farthest_22 : decode cX6_farthest 22 = .ok (.aload_n 0, 1) := by decide +kernel
theorem dX6_farthest_23 : decode cX6_farthest 23 = .ok (.iload_n 3, 1) := by decide +kernel
theorem dX6_farthest_24 : decode cX6_farthest 24 = .ok (.iload_n 1, 1) := by decide +kernel
theorem dX6_farthest_25 : decode cX6_farthest 25 = .ok (.invokevirtual 186, 3) := by decide +kernel
theorem dX6_farthest_28 : decode cX6_farthest 28 = .ok (.ifCond .eq 26, 3) := by decide +kernel
theorem dX6_farthest_31 : decode cX6_farthest 31 = .ok (.aload_n 0, 1) := by decide +kernel
theorem dX6_farthest_32 : decode cX6_farthest 32 = .ok (.getfield 7, 3) := by decide +kernel
theorem dX6_farthest_35 : decode cX6_farthest 35 = .ok (.iload_n 3, 1) := by decide +kernel
theorem dX6_farthest_36 : decode cX6_farthest 36 = .ok (.iconst 2, 1) := by decide +kernel
theorem dX6_farthest_37 : decode cX6_farthest 37 = .ok (.iadd, 1) := by decide +kernel
theorem dX6_farthest_38 : decode cX6_farthest 38 = .ok (.iaload, 1) := by decide +kernel
theorem dX6_farthest_39 : decode cX6_farthest 39 = .ok (.iload_n 2, 1) := by decide +kernel
theorem dX6_farthest_40 : decode cX6_farthest 40 = .ok (.if_icmp .le 14, 3) := by decide +kernel
theorem dX6_farthest_43 : decode cX6_farthest 43 = .ok (.aload_n 0, 1) := by decide +kernel
theorem dX6_farthest_44 : decode cX6_farthest 44 = .ok (.getfield 7, 3) := by decide +kernel
theorem dX6_farthest_47 : decode cX6_farthest 47 = .ok (.iload_n 3, 1) := by decide +kernel
theorem dX6_farthest_48 : decode cX6_farthest 48 = .ok (.iconst 2, 1) := by decide +kernel
theorem dX6_farthest_49 : decode cX6_farthest 49 = .ok (.iadd, 1) := by decide +kernel
theorem dX6_farthest_50 : decode cX6_farthest 50 = .ok (.iaload, 1) := by decide +kernel
theorem dX6_farthest_51 : decode cX6_farthest 51 = .ok (.goto 4, 3) := by decide +kernel
theorem dX6_farthest_54 : decode cX6_farthest 54 = .ok (.iload_n 2, 1) := by decide +kernel
theorem dX6_farthest_55 : decode cX6_farthest 55 = .ok (.istore_n 2, 1) := by decide +kernel
theorem dX6_farthest_56 : decode cX6_farthest 56 = .ok (.iinc 3 3, 3) := by decide +kernel
theorem dX6_farthest_59 : decode cX6_farthest 59 = .ok (.goto (-44), 3) := by decide +kernel
theorem dX6_farthest_62 : decode cX6_farthest 62 = .ok (.iload_n 2, 1) := by decide +kernel
theorem dX6_farthest_63 : decode cX6_farthest 63 = .ok (.ireturn, 1) := by decide +kernel
set_option maxRecDepth 20000 in
theorem ggX6_widest_X6_carriersOf : GoodIn wsX6_widest wsX6_carriersOf := goodIn_r _ [6, 7, 8, 9, 5, 10, 1, 11, 12, 13, 14, 15, 16, 17, 18] (by decide +kernel) (by decide +kernel)
set_option maxRecDepth 20000 in
theorem gX6_widest_X6_carriersOf : GoodIn wsX6_widest (wsV RX6 189 RX6 yX6_carriersOf wsX6_carriersOf) := goodIn_app (goodIn_of _ (by decide +kernel)) ggX6_widest_X6_carriersOf
theorem dX6_widest_0 : decode cX6_widest 0 = .ok (.bipush (-6), 2) := by decide +kernel
theorem dX6_widest_2 : decode cX6_widest 2 = .ok (.istore_n 1, 1) := by decide +kernel
theorem dX6_widest_3 : decode cX6_widest 3 = .ok (.iconst 0, 1) := by decide +kernel
theorem dX6_widest_4 : decode cX6_widest 4 = .ok (.istore_n 2, 1) := by decide +kernel
theorem dX6_widest_5 : decode cX6_widest 5 = .ok (.iconst 0, 1) := by decide +kernel
theorem dX6_widest_6 : decode cX6_widest 6 = .ok (.istore_n 3, 1) := by decide +kernel
theorem dX6_widest_7 : decode cX6_widest 7 = .ok (.iload_n 3, 1) := by decide +kernel
theorem dX6_widest_8 : decode cX6_widest 8 = .ok (.aload_n 0, 1) := by decide +kernel
theorem dX6_widest_9 : decode cX6_widest 9 = .ok (.getfield 7, 3) := by decide +kernel
theorem dX6_widest_12 : decode cX6_widest 12 = .ok (.sipush 256, 3) := by decide +kernel
theorem dX6_widest_15 : decode cX6_widest 15 = .ok (.iaload, 1) := by decide +kernel
theorem dX6_widest_16 : decode cX6_widest 16 = .ok (.if_icmp .ge 41, 3) := by decide +kernel
theorem dX6_widest_19 : decode cX6_widest 19 = .ok (.aload_n 0, 1) := by decide +kernel
theorem dX6_widest_20 : decode cX6_widest 20 = .ok (.iload_n 3, 1) := by decide +kernel
theorem dX6_widest_21 : decode cX6_widest 21 = .ok (.invokevirtual 189, 3) := by decide +kernel
theorem dX6_widest_24 : decode cX6_widest 24 = .ok (.istore 4, 2) := by decide +kernel
theorem dX6_widest_26 : decode cX6_widest 26 = .ok (.iload 4, 2) := by decide +kernel
theorem dX6_widest_28 : decode cX6_widest 28 = .ok (.iload_n 2, 1) := by decide +kernel
theorem dX6_widest_29 : decode cX6_widest 29 = .ok (.if_icmp .le 7, 3) := by decide +kernel
theorem dX6_widest_32 : decode cX6_widest 32 = .ok (.iload_n 3, 1) := by decide +kernel
theorem dX6_widest_33 : decode cX6_widest 33 = .ok (.goto 4, 3) := by decide +kernel
theorem dX6_widest_36 : decode cX6_widest 36 = .ok (.iload_n 1, 1) := by decide +kernel
theorem dX6_widest_37 : decode cX6_widest 37 = .ok (.istore_n 1, 1) := by decide +kernel
theorem dX6_widest_38 : decode cX6_widest 38 = .ok (.iload 4, 2) := by decide +kernel
theorem dX6_widest_40 : decode cX6_widest 40 = .ok (.iload_n 2, 1) := by decide +kernel
theorem dX6_widest_41 : decode cX6_widest 41 = .ok (.if_icmp .le 8, 3) := by decide +kernel
theorem dX6_widest_44 : decode cX6_widest 44 = .ok (.iload 4, 2) := by decide +kernel
theorem dX6_widest_46 : decode cX6_widest 46 = .ok (.goto 4, 3) := by decide +kernel
theorem dX6_widest_49 : decode cX6_widest 49 = .ok (.iload_n 2, 1) := by decide +kernel
theorem dX6_widest_50 : decode cX6_widest 50 = .ok (.istore_n 2, 1) := by decide +kernel
theorem dX6_widest_51 : decode cX6_widest 51 = .ok (.iinc 3 1, 3) := by decide +kernel
theorem dX6_widest_54 : decode cX6_widest 54 = .ok (.goto (-47), 3) := by decide +kernel
theorem dX6_widest_57 : decode cX6_widest 57 = .ok (.iload_n 1, 1) := by decide +kernel
theorem dX6_widest_58 : decode cX6_widest 58 = .ok (.ireturn, 1) := by decide +kernel
set_option maxRecDepth 20000 in
theorem ggX6_atRisk_X6_registerAt : GoodIn wsX6_atRisk wsX6_registerAt := goodIn_r _ [5] (by decide +kernel) (by decide +kernel)
set_option maxRecDepth 20000 in
theorem gX6_atRisk_X6_registerAt : GoodIn wsX6_atRisk (va_wsS RX6 52 yX6_registerAt wsX6_registerAt) := goodIn_app (goodIn_of _ (by decide +kernel)) ggX6_atRisk_X6_registerAt
set_option maxRecDepth 20000 in
theorem ggX6_atRisk_X6_isPoisoned : GoodIn wsX6_atRisk wsX6_isPoisoned := goodIn_r _ [9, 1, 10, 11, 12, 13, 14, 15, 16, 17] (by decide +kernel) (by decide +kernel)
set_option maxRecDepth 20000 in
theorem gX6_atRisk_X6_isPoisoned : GoodIn wsX6_atRisk (wsV RX6 38 RX6 yX6_isPoisoned wsX6_isPoisoned) := goodIn_app (goodIn_of _ (by decide +kernel)) ggX6_atRisk_X6_isPoisoned
theorem dX6_atRisk_0 : decode cX6_atRisk 0 = .ok (.iconst 0, 1) := by decide +kernel
theorem dX6_atRisk_1 : decode cX6_atRisk 1 = .ok (.istore_n 1, 1) := by decide +kernel
theorem dX6_atRisk_2 : decode cX6_atRisk 2 = .ok (.iconst 0, 1) := by decide +kernel
theorem dX6_atRisk_3 : decode cX6_atRisk 3 = .ok (.istore_n 2, 1) := by decide +kernel
theorem dX6_atRisk_4 : decode cX6_atRisk 4 = .ok (.iload_n 2, 1) := by decide +kernel
theorem dX6_atRisk_5 : decode cX6_atRisk 5 = .ok (.bipush 16, 2) := by decide +kernel
theorem dX6_atRisk_7 : decode cX6_atRisk 7 = .ok (.if_icmp .ge 63, 3) := by decide +kernel
theorem dX6_atRisk_10 : decode cX6_atRisk 10 = .ok (.aload_n 0, 1) := by decide +kernel
theorem dX6_atRisk_11 : decode cX6_atRisk 11 = .ok (.getfield 7, 3) := by decide +kernel
theorem dX6_atRisk_14 : decode cX6_atRisk 14 = .ok (.sipush 252, 3) := by decide +kernel
theorem dX6_atRisk_17 : decode cX6_atRisk 17 = .ok (.iload_n 2, 1) := by decide +kernel
theorem dX6_atRisk_18 : decode cX6_atRisk 18 = .ok (.iconst 4, 1) := by decide +kernel
theorem dX6_atRisk_19 : decode cX6_atRisk 19 = .ok (.idiv, 1) := by decide +kernel
theorem dX6_atRisk_20 : decode cX6_atRisk 20 = .ok (.iadd, 1) := by decide +kernel
theorem dX6_atRisk_21 : decode cX6_atRisk 21 = .ok (.iaload, 1) := by decide +kernel
theorem dX6_atRisk_22 : decode cX6_atRisk 22 = .ok (.ifCond .ne 24, 3) := by decide +kernel
theorem dX6_atRisk_25 : decode cX6_atRisk 25 = .ok (.aload_n 0, 1) := by decide +kernel
theorem dX6_atRisk_26 : decode cX6_atRisk 26 = .ok (.iconst 0, 1) := by decide +kernel
theorem dX6_atRisk_27 : decode cX6_atRisk 27 = .ok (.iload_n 2, 1) := by decide +kernel
theorem dX6_atRisk_28 : decode cX6_atRisk 28 = .ok (.iconst 4, 1) := by decide +kernel
theorem dX6_atRisk_29 : decode cX6_atRisk 29 = .ok (.idiv, 1) := by decide +kernel
theorem dX6_atRisk_30 : decode cX6_atRisk 30 = .ok (.iload_n 2, 1) := by decide +kernel
theorem dX6_atRisk_31 : decode cX6_atRisk 31 = .ok (.iconst 4, 1) := by decide +kernel
theorem dX6_atRisk_32 : decode cX6_atRisk 32 = .ok (.irem, 1) := by decide +kernel
theorem dX6_atRisk_33 : decode cX6_atRisk 33 = .ok (.invokestatic 52, 3) := by decide +kernel
theorem dX6_atRisk_36 : decode cX6_atRisk 36 = .ok (.invokevirtual 38, 3) := by decide +kernel
theorem dX6_atRisk_39 : decode cX6_atRisk 39 = .ok (.ifCond .eq 7, 3) := by decide +kernel
theorem dX6_atRisk_42 : decode cX6_atRisk 42 = .ok (.iconst 1, 1) := by decide +kernel
theorem dX6_atRisk_43 : decode cX6_atRisk 43 = .ok (.goto 4, 3) := by decide +kernel
theorem dX6_atRisk_46 : decode cX6_atRisk 46 = .ok (.iconst 0, 1) := by decide +kernel
theorem dX6_atRisk_47 : decode cX6_atRisk 47 = .ok (.istore_n 3, 1) := by decide +kernel
theorem dX6_atRisk_48 : decode cX6_atRisk 48 = .ok (.iload_n 1, 1) := by decide +kernel
theorem dX6_atRisk_49 : decode cX6_atRisk 49 = .ok (.iload_n 3, 1) := by decide +kernel
theorem dX6_atRisk_50 : decode cX6_atRisk 50 = .ok (.ifCond .eq 11, 3) := by decide +kernel
theorem dX6_atRisk_53 : decode cX6_atRisk 53 = .ok (.iconst 1, 1) := by decide +kernel
theorem dX6_atRisk_54 : decode cX6_atRisk 54 = .ok (.iload_n 2, 1) := by decide +kernel
theorem dX6_atRisk_55 : decode cX6_atRisk 55 = .ok (.iconst 4, 1) := by decide +kernel
theorem dX6_atRisk_56 : decode cX6_atRisk 56 = .ok (.idiv, 1) := by decide +kernel
theorem dX6_atRisk_57 : decode cX6_atRisk 57 = .ok (.ishl, 1) := by decide +kernel
theorem dX6_atRisk_58 : decode cX6_atRisk 58 = .ok (.goto 4, 3) := by decide +kernel
theorem dX6_atRisk_61 : decode cX6_atRisk 61 = .ok (.iconst 0, 1) := by decide +kernel
theorem dX6_atRisk_62 : decode cX6_atRisk 62 = .ok (.ior, 1) := by decide +kernel
theorem dX6_atRisk_63 : decode cX6_atRisk 63 = .ok (.istore_n 1, 1) := by decide +kernel
theorem dX6_atRisk_64 : decode cX6_atRisk 64 = .ok (.iinc 2 1, 3) := by decide +kernel
theorem dX6_atRisk_67 : decode cX6_atRisk 67 = .ok (.goto (-63), 3) := by decide +kernel
theorem dX6_atRisk_70 : decode cX6_atRisk 70 = .ok (.iload_n 1, 1) := by decide +kernel
theorem dX6_atRisk_71 : decode cX6_atRisk 71 = .ok (.ireturn, 1) := by decide +kernel
set_option maxRecDepth 20000 in
theorem ggX6_poisonShare_X6_poisonedWords : GoodIn wsX6_poisonShare wsX6_poisonedWords := goodIn_r _ [6, 7, 8, 5, 9, 10, 11, 12, 13, 14, 15, 16, 17, 18, 19, 20, 21, 22] (by decide +kernel) (by decide +kernel)
set_option maxRecDepth 20000 in
theorem gX6_poisonShare_X6_poisonedWords : GoodIn wsX6_poisonShare (wsV RX6 183 RX6 yX6_poisonedWords wsX6_poisonedWords) := goodIn_app (goodIn_of _ (by decide +kernel)) ggX6_poisonShare_X6_poisonedWords
theorem dX6_poisonShare_0 : decode cX6_poisonShare 0 = .ok (.aload_n 0, 1) := by decide +kernel
theorem dX6_poisonShare_1 : decode cX6_poisonShare 1 = .ok (.iconst 0, 1) := by decide +kernel
theorem dX6_poisonShare_2 : decode cX6_poisonShare 2 = .ok (.bipush 32, 2) := by decide +kernel
theorem dX6_poisonShare_4 : decode cX6_poisonShare 4 = .ok (.invokevirtual 183, 3) := by decide +kernel
theorem dX6_poisonShare_7 : decode cX6_poisonShare 7 = .ok (.i2f, 1) := by decide +kernel
theorem dX6_poisonShare_8 : decode cX6_poisonShare 8 = .ok (.ldc 192, 2) := by decide +kernel
theorem dX6_poisonShare_10 : decode cX6_poisonShare 10 = .ok (.fdiv, 1) := by decide +kernel
theorem dX6_poisonShare_11 : decode cX6_poisonShare 11 = .ok (.freturn, 1) := by decide +kernel
set_option maxRecDepth 20000 in
theorem ggX6_healable_X6_canHeal : GoodIn wsX6_healable wsX6_canHeal := goodIn_r _ [5, 6, 7, 4, 8, 9, 10, 11, 12, 13, 14, 15, 16, 17, 18, 19, 20, 21, 22, 23, 24, 25, 26, 27, 28] (by decide +kernel) (by decide +kernel)
set_option maxRecDepth 20000 in
theorem gX6_healable_X6_canHeal : GoodIn wsX6_healable (wsV RX6 49 RX6 yX6_canHeal wsX6_canHeal) := goodIn_app (goodIn_of _ (by decide +kernel)) ggX6_healable_X6_canHeal
theorem dX6_healable_0 : decode cX6_healable 0 = .ok (.iconst 0, 1) := by decide +kernel
theorem dX6_healable_1 : decode cX6_healable 1 = .ok (.istore_n 3, 1) := by decide +kernel
theorem dX6_healable_2 : decode cX6_healable 2 = .ok (.iload_n 1, 1) := by decide +kernel
theorem dX6_healable_3 : decode cX6_healable 3 = .ok (.istore 4, 2) := by decide +kernel
theorem dX6_healable_5 : decode cX6_healable 5 = .ok (.iload 4, 2) := by decide +kernel
theorem dX6_healable_7 : decode cX6_healable 7 = .ok (.iload_n 2, 1) := by decide +kernel
theorem dX6_healable_8 : decode cX6_healable 8 = .ok (.if_icmp .ge 27, 3) := by decide +kernel
theorem dX6_healable_11 : decode cX6_healable 11 = .ok (.iload_n 3, 1) := by decide +kernel
theorem dX6_healable_12 : decode cX6_healable 12 = .ok (.aload_n 0, 1) := by decide +kernel
theorem dX6_healable_13 : decode cX6_healable 13 = .ok (.iconst 0, 1) := by decide +kernel
theorem dX6_healable_14 : decode cX6_healable 14 = .ok (.iload 4, 2) := by decide +kernel
theorem dX6_healable_16 : decode cX6_healable 16 = .ok (.invokevirtual 49, 3) := by decide +kernel
theorem dX6_healable_19 : decode cX6_healable 19 = .ok (.ifCond .eq 7, 3) := by decide +kernel
theorem dX6_healable_22 : decode cX6_healable 22 = .ok (.iconst 1, 1) := by decide +kernel
theorem dX6_healable_23 : decode cX6_healable 23 = .ok (.goto 4, 3) := by decide +kernel
theorem dX6_healable_26 : decode cX6_healable 26 = .ok (.iconst 0, 1) := by decide +kernel
theorem dX6_healable_27 : decode cX6_healable 27 = .ok (.iadd, 1) := by decide +kernel
theorem dX6_healable_28 : decode cX6_healable 28 = .ok (.istore_n 3, 1) := by decide +kernel
theorem dX6_healable_29 : decode cX6_healable 29 = .ok (.iinc 4 1, 3) := by decide +kernel
theorem dX6_healable_32 : decode cX6_healable 32 = .ok (.goto (-27), 3) := by decide +kernel
theorem dX6_healable_35 : decode cX6_healable 35 = .ok (.iload_n 3, 1) := by decide +kernel
theorem dX6_healable_36 : decode cX6_healable 36 = .ok (.ireturn, 1) := by decide +kernel
set_option maxRecDepth 20000 in
theorem ggX6_poisonedIfScrubbed_X6_poisonedWords : GoodIn wsX6_poisonedIfScrubbed wsX6_poisonedWords := goodIn_r _ [5, 6, 7, 4, 8, 9, 10, 11, 12, 13, 29, 30, 31, 32, 33, 34, 35, 36] (by decide +kernel) (by decide +kernel)
set_option maxRecDepth 20000 in
theorem gX6_poisonedIfScrubbed_X6_poisonedWords : GoodIn wsX6_poisonedIfScrubbed (wsV RX6 183 RX6 yX6_poisonedWords wsX6_poisonedWords) := goodIn_app (goodIn_of _ (by decide +kernel)) ggX6_poisonedIfScrubbed_X6_poisonedWords
set_option maxRecDepth 20000 in
theorem ggX6_poisonedIfScrubbed_X6_healable : GoodIn wsX6_poisonedIfScrubbed wsX6_healable := goodIn_r _ [17, 18, 19, 20, 4, 21, 6, 7, 8, 9, 10, 11, 12, 13, 22, 23, 24, 25, 26, 27, 28, 29, 30, 31, 32, 33, 34, 35, 36] (by decide +kernel) (by decide +kernel)
set_option maxRecDepth 20000 in
theorem gX6_poisonedIfScrubbed_X6_healable : GoodIn wsX6_poisonedIfScrubbed (wsV RX6 193 RX6 yX6_healable wsX6_healable) := goodIn_app (goodIn_of _ (by decide +kernel)) ggX6_poisonedIfScrubbed_X6_healable
theorem dX6_poisonedIfScrubbed_0 : decode cX6_poisonedIfScrubbed 0 = .ok (.aload_n 0, 1) := by decide +kernel
theorem dX6_poisonedIfScrubbed_1 : decode cX6_poisonedIfScrubbed 1 = .ok (.iconst 0, 1) := by decide +kernel
theorem dX6_poisonedIfScrubbed_2 : decode cX6_poisonedIfScrubbed 2 = .ok (.bipush 32, 2) := by decide +kernel
theorem dX6_poisonedIfScrubbed_4 : decode cX6_poisonedIfScrubbed 4 = .ok (.invokevirtual 183, 3) := by decide +kernel
theorem dX6_poisonedIfScrubbed_7 : decode cX6_poisonedIfScrubbed 7 = .ok (.aload_n 0, 1) := by decide +kernel
theorem dX6_poisonedIfScrubbed_8 : decode cX6_poisonedIfScrubbed 8 = .ok (.iconst 0, 1) := by decide +kernel
theorem dX6_poisonedIfScrubbed_9 : decode cX6_poisonedIfScrubbed 9 = .ok (.bipush 32, 2) := by decide +kernel
theorem dX6_poisonedIfScrubbed_11 : decode cX6_poisonedIfScrubbed 11 = .ok (.invokevirtual 193, 3) := by decide +kernel
theorem dX6_poisonedIfScrubbed_14 : decode cX6_poisonedIfScrubbed 14 = .ok (.isub, 1) := by decide +kernel
theorem dX6_poisonedIfScrubbed_15 : decode cX6_poisonedIfScrubbed 15 = .ok (.ireturn, 1) := by decide +kernel
set_option maxRecDepth 20000 in
theorem ggX6_bestScrub_X6_healable : GoodIn wsX6_bestScrub wsX6_healable := goodIn_r _ [5, 6, 7, 8, 4, 9, 10, 11, 12, 13, 14, 15, 16, 17, 18, 19, 20, 21, 22, 23, 24, 25, 26, 27, 28, 29, 30, 31, 32] (by decide +kernel) (by decide +kernel)
set_option maxRecDepth 20000 in
theorem gX6_bestScrub_X6_healable : GoodIn wsX6_bestScrub (wsV RX6 193 RX6 yX6_healable wsX6_healable) := goodIn_app (goodIn_of _ (by decide +kernel)) ggX6_bestScrub_X6_healable
theorem dX6_bestScrub_0 : decode cX6_bestScrub 0 = .ok (.bipush (-6), 2) := by decide +kernel
theorem dX6_bestScrub_2 : decode cX6_bestScrub 2 = .ok (.istore_n 1, 1) := by decide +kernel
theorem dX6_bestScrub_3 : decode cX6_bestScrub 3 = .ok (.iconst 0, 1) := by decide +kernel
theorem dX6_bestScrub_4 : decode cX6_bestScrub 4 = .ok (.istore_n 2, 1) := by decide +kernel
theorem dX6_bestScrub_5 : decode cX6_bestScrub 5 = .ok (.iconst 0, 1) := by decide +kernel
theorem dX6_bestScrub_6 : decode cX6_bestScrub 6 = .ok (.istore_n 3, 1) := by decide +kernel
theorem dX6_bestScrub_7 : decode cX6_bestScrub 7 = .ok (.iload_n 3, 1) := by decide +kernel
theorem dX6_bestScrub_8 : decode cX6_bestScrub 8 = .ok (.bipush 8, 2) := by decide +kernel
theorem dX6_bestScrub_10 : decode cX6_bestScrub 10 = .ok (.if_icmp .ge 48, 3) := by decide +kernel
theorem dX6_bestScrub_13 : decode cX6_bestScrub 13 = .ok (.aload_n 0, 1) := by decide +kernel
theorem dX6_bestScrub_14 : decode cX6_bestScrub 14 = .ok (.iconst 4, 1) := by decide +kernel
theorem dX6_bestScrub_15 : decode cX6_bestScrub 15 = .ok (.iload_n 3, 1) := by decide +kernel
theorem dX6_bestScrub_16 : decode cX6_bestScrub 16 = .ok (.imul, 1) := by decide +kernel
theorem dX6_bestScrub_17 : decode cX6_bestScrub 17 = .ok (.iconst 4, 1) := by decide +kernel
theorem dX6_bestScrub_18 : decode cX6_bestScrub 18 = .ok (.iload_n 3, 1) := by decide +kernel
theorem dX6_bestScrub_19 : decode cX6_bestScrub 19 = .ok (.imul, 1) := by decide +kernel
theorem dX6_bestScrub_20 : decode cX6_bestScrub 20 = .ok (.iconst 4, 1) := by decide +kernel
theorem dX6_bestScrub_21 : decode cX6_bestScrub 21 = .ok (.iadd, 1) := by decide +kernel
theorem dX6_bestScrub_22 : decode cX6_bestScrub 22 = .ok (.invokevirtual 193, 3) := by decide +kernel
theorem dX6_bestScrub_25 : decode cX6_bestScrub 25 = .ok (.istore 4, 2) := by decide +kernel
theorem dX6_bestScrub_27 : decode cX6_bestScrub 27 = .ok (.iload 4, 2) := by decide +kernel
theorem dX6_bestScrub_29 : decode cX6_bestScrub 29 = .ok (.iload_n 2, 1) := by decide +kernel
theorem dX6_bestScrub_30 : decode cX6_bestScrub 30 = .ok (.if_icmp .le 7, 3) := by decide +kernel
theorem dX6_bestScrub_33 : decode cX6_bestScrub 33 = .ok (.iload_n 3, 1) := by decide +kernel
theorem dX6_bestScrub_34 : decode cX6_bestScrub 34 = .ok (.goto 4, 3) := by decide +kernel
theorem dX6_bestScrub_37 : decode cX6_bestScrub 37 = .ok (.iload_n 1, 1) := by decide +kernel
theorem dX6_bestScrub_38 : decode cX6_bestScrub 38 = .ok (.istore_n 1, 1) := by decide +kernel
theorem dX6_bestScrub_39 : decode cX6_bestScrub 39 = .ok (.iload 4, 2) := by decide +kernel
theorem dX6_bestScrub_41 : decode cX6_bestScrub 41 = .ok (.iload_n 2, 1) := by decide +kernel
theorem dX6_bestScrub_42 : decode cX6_bestScrub 42 = .ok (.if_icmp .le 8, 3) := by decide +kernel
theorem dX6_bestScrub_45 : decode cX6_bestScrub 45 = .ok (.iload 4, 2) := by decide +kernel
theorem dX6_bestScrub_47 : decode cX6_bestScrub 47 = .ok (.goto 4, 3) := by decide +kernel
theorem dX6_bestScrub_50 : decode cX6_bestScrub 50 = .ok (.iload_n 2, 1) := by decide +kernel
theorem dX6_bestScrub_51 : decode cX6_bestScrub 51 = .ok (.istore_n 2, 1) := by decide +kernel
theorem dX6_bestScrub_52 : decode cX6_bestScrub 52 = .ok (.iinc 3 1, 3) := by decide +kernel
theorem dX6_bestScrub_55 : decode cX6_bestScrub 55 = .ok (.goto (-48), 3) := by decide +kernel
theorem dX6_bestScrub_58 : decode cX6_bestScrub 58 = .ok (.iload_n 1, 1) := by decide +kernel
theorem dX6_bestScrub_59 : decode cX6_bestScrub 59 = .ok (.ireturn, 1) := by decide +kernel
set_option maxRecDepth 20000 in
theorem ggX6_carriersWithout_X6_isOrigin : GoodIn wsX6_carriersWithout wsX6_isOrigin := goodIn_r _ [6, 1, 7, 8, 5, 9, 24, 25, 26, 27, 28, 29, 30, 31] (by decide +kernel) (by decide +kernel)
set_option maxRecDepth 20000 in
theorem gX6_carriersWithout_X6_isOrigin : GoodIn wsX6_carriersWithout (wsV RX6 180 RX6 yX6_isOrigin wsX6_isOrigin) := goodIn_app (goodIn_of _ (by decide +kernel)) ggX6_carriersWithout_X6_isOrigin
set_option maxRecDepth 20000 in
theorem ggX6_carriersWithout_X6_isWord : GoodIn wsX6_carriersWithout wsX6_isWord := goodIn_r _ [12, 7, 8, 5, 9] (by decide +kernel) (by decide +kernel)
set_option maxRecDepth 20000 in
theorem gX6_carriersWithout_X6_isWord : GoodIn wsX6_carriersWithout (va_wsS RX6 96 yX6_isWord wsX6_isWord) := goodIn_app (goodIn_of _ (by decide +kernel)) ggX6_carriersWithout_X6_isWord
set_option maxRecDepth 20000 in
theorem ggX6_carriersWithout_X6_carriersOf : GoodIn wsX6_carriersWithout wsX6_carriersOf := goodIn_r _ [16, 17, 18, 19, 5, 20, 1, 24, 25, 26, 27, 28, 29, 30, 31] (by decide +kernel) (by decide +kernel)
set_option maxRecDepth 20000 in
theorem gX6_carriersWithout_X6_carriersOf : GoodIn wsX6_carriersWithout (wsV RX6 189 RX6 yX6_carriersOf wsX6_carriersOf) := goodIn_app (goodIn_of _ (by decide +kernel)) ggX6_carriersWithout_X6_carriersOf
set_option maxRecDepth 20000 in
theorem ggX6_carriersWithout_X6_wordAt : GoodIn wsX6_carriersWithout wsX6_wordAt := goodIn_r _ [23] (by decide +kernel) (by decide +kernel)
set_option maxRecDepth 20000 in
theorem gX6_carriersWithout_X6_wordAt : GoodIn wsX6_carriersWithout (va_wsS RX6 34 yX6_wordAt wsX6_wordAt) := goodIn_app (goodIn_of _ (by decide +kernel)) ggX6_carriersWithout_X6_wordAt
theorem dX6_carriersWithout_0 : decode cX6_carriersWithout 0 = .ok (.aload_n 0, 1) := by decide +kernel
theorem dX6_carriersWithout_1 : decode cX6_carriersWithout 1 = .ok (.iload_n 1, 1) := by decide +kernel
theorem dX6_carriersWithout_2 : decode cX6_carriersWithout 2 = .ok (.invokevirtual 180, 3) := by decide +kernel
theorem dX6_carriersWithout_5 : decode cX6_carriersWithout 5 = .ok (.ifCond .eq 10, 3) := by decide +kernel
theorem dX6_carriersWithout_8 : decode cX6_carriersWithout 8 = .ok (.iload_n 2, 1) := by decide +kernel
theorem dX6_carriersWithout_9 : decode cX6_carriersWithout 9 = .ok (.invokestatic 96, 3) := by decide +kernel
theorem dX6_carriersWithout_12 : decode cX6_carriersWithout 12 = .ok (.ifCond .ne 5, 3) := by decide +kernel
theorem dX6_carriersWithout_15 : decode cX6_carriersWithout 15 = .ok (.iconst (-1), 1) := by decide +kernel
theorem dX6_carriersWithout_16 : decode cX6_carriersWithout 16 = .ok (.ireturn, 1) := by decide +kernel
theorem dX6_carriersWithout_17 : decode cX6_carriersWithout 17 = .ok (.aload_n 0, 1) := by decide +kernel
theorem dX6_carriersWithout_18 : decode cX6_carriersWithout 18 = .ok (.iload_n 1, 1) := by decide +kernel
theorem dX6_carriersWithout_19 : decode cX6_carriersWithout 19 = .ok (.invokevirtual 189, 3) := by decide +kernel
theorem dX6_carriersWithout_22 : decode cX6_carriersWithout 22 = .ok (.aload_n 0, 1) := by decide +kernel
theorem dX6_carriersWithout_23 : decode cX6_carriersWithout 23 = .ok (.getfield 7, 3) := by decide +kernel
theorem dX6_carriersWithout_26 : decode cX6_carriersWithout 26 = .ok (.iconst 0, 1) := by decide +kernel
theorem dX6_carriersWithout_27 : decode cX6_carriersWithout 27 = .ok (.iload_n 2, 1) := by decide +kernel
theorem dX6_carriersWithout_28 : decode cX6_carriersWithout 28 = .ok (.invokestatic 34, 3) := by decide +kernel
theorem dX6_carriersWithout_31 : decode cX6_carriersWithout 31 = .ok (.iconst 1, 1) := by decide +kernel
theorem dX6_carriersWithout_32 : decode cX6_carriersWithout 32 = .ok (.iadd, 1) := by decide +kernel
theorem dX6_carriersWithout_33 : decode cX6_carriersWithout 33 = .ok (.iaload, 1) := by decide +kernel
theorem dX6_carriersWithout_34 : decode cX6_carriersWithout 34 = .ok (.iload_n 1, 1) := by decide +kernel
theorem dX6_carriersWithout_35 : decode cX6_carriersWithout 35 = .ok (.if_icmp .ne 7, 3) := by decide +kernel
theorem dX6_carriersWithout_38 : decode cX6_carriersWithout 38 = .ok (.iconst 1, 1) := by decide +kernel
theorem dX6_carriersWithout_39 : decode cX6_carriersWithout 39 = .ok (.goto 4, 3) := by decide +kernel
theorem dX6_carriersWithout_42 : decode cX6_carriersWithout 42 = .ok (.iconst 0, 1) := by decide +kernel
theorem dX6_carriersWithout_43 : decode cX6_carriersWithout 43 = .ok (.isub, 1) := by decide +kernel
theorem dX6_carriersWithout_44 : decode cX6_carriersWithout 44 = .ok (.ireturn, 1) := by decide +kernel
set_option maxRecDepth 20000 in
theorem ggX6_stopsAt_X6_isText : GoodIn wsX6_stopsAt wsX6_isText := goodIn_r _ [5, 6, 7, 8, 9, 10, 4, 11, 12, 13, 14, 15, 16, 17, 18, 19, 20, 21, 22, 23, 24, 25, 26, 27, 28, 29, 30, 31, 32, 33, 34, 143, 144, 145, 146, 147, 148, 149, 150] (by decide +kernel) (by decide +kernel)
set_option maxRecDepth 20000 in
theorem gX6_stopsAt_X6_isText : GoodIn wsX6_stopsAt (wsV RX6 164 RX6 yX6_isText wsX6_isText) := goodIn_app (goodIn_of _ (by decide +kernel)) ggX6_stopsAt_X6_isText
set_option maxRecDepth 20000 in
theorem ggX6_stopsAt_X6_runs : GoodIn wsX6_stopsAt wsX6_runs := goodIn_r _ [38, 6, 39, 40, 41, 4, 42, 43, 44, 45, 46, 47, 48, 49, 50, 51, 8, 9, 10, 11, 12, 13, 14, 15, 16, 17, 7, 18, 19, 20, 21, 22, 23, 24, 25, 26, 27, 28, 29, 30, 31, 32, 33, 34, 52, 53, 54, 55, 56, 57, 58, 59, 60, 61, 62, 63, 64, 65, 66, 67, 68, 69, 70, 71, 72, 73, 74, 75, 76, 77, 78, 79, 80, 81, 82, 83, 84, 85, 86, 87, 88, 89, 90, 91, 92, 93, 94, 95, 96, 97, 98, 99, 100, 101, 102, 103, 104, 105, 106, 107, 108, 109, 110, 111, 112, 113, 114, 115, 116, 117, 118, 119, 120, 121, 122, 123, 124, 125, 126, 127, 128, 129, 130, 131, 132, 133, 134, 135, 136, 137, 138, 139, 140, 141, 142, 143, 144, 145, 146, 147, 148, 149, 150] (by decide +kernel) (by decide +kernel)
set_option maxRecDepth 20000 in
theorem gX6_stopsAt_X6_runs : GoodIn wsX6_stopsAt (wsV RX6 173 RX6 yX6_runs wsX6_runs) := goodIn_app (goodIn_of _ (by decide +kernel)) ggX6_stopsAt_X6_runs
theorem dX6_stopsAt_0 : decode cX6_stopsAt 0 = .ok (.aload_n 0, 1) := by decide +kernel
theorem dX6_stopsAt_1 : decode cX6_stopsAt 1 = .ok (.invokevirtual 164, 3) := by decide +kernel
theorem dX6_stopsAt_4 : decode cX6_stopsAt 4 = .ok (.ifCond .eq 11, 3) := by decide +kernel
theorem dX6_stopsAt_7 : decode cX6_stopsAt 7 = .ok (.aload_n 0, 1) := by decide +kernel
theorem dX6_stopsAt_8 : decode cX6_stopsAt 8 = .ok (.iconst 1, 1) := by decide +kernel
theorem dX6_stopsAt_9 : decode cX6_stopsAt 9 = .ok (.invokevirtual 173, 3) := by decide +kernel
theorem dX6_stopsAt_12 : decode cX6_stopsAt 12 = .ok (.goto 5, 3) := by decide +kernel
theorem dX6_stopsAt_15 : decode cX6_stopsAt 15 = .ok (.bipush (-3), 2) := by decide +kernel
theorem dX6_stopsAt_17 : decode cX6_stopsAt 17 = .ok (.ireturn, 1) := by decide +kernel
