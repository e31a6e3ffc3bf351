set_option maxRecDepth 20000 in
theorem ggX0_init_J7_fill_53178 : GoodIn wsX0_init wsJ7_fill_53178 := goodIn_r _ [11] (by decide +kernel) (by decide +kernel)
set_option maxRecDepth 20000 in
theorem gX0_init_J7_fill_53178 : GoodIn wsX0_init (va_wsS RX0 21 yJ7_fill_53178 wsJ7_fill_53178) := goodIn_app (goodIn_of _ (by decide +kernel)) ggX0_init_J7_fill_53178
theorem dX0_init_0 : decode cX0_init 0 = .ok (.aload_n 0, 1) := by decide +kernel
theorem dX0_init_1 : decode cX0_init 1 = .ok (.invokespecial 3, 3) := by decide +kernel
theorem dX0_init_4 : decode cX0_init 4 = .ok (.aload_n 0, 1) := by decide +kernel
theorem dX0_init_5 : decode cX0_init 5 = .ok (.iload_n 1, 1) := by decide +kernel
theorem dX0_init_6 : decode cX0_init 6 = .ok (.newarray .int, 2) := by decide +kernel
theorem dX0_init_8 : decode cX0_init 8 = .ok (.putfield 9, 3) := by decide +kernel
theorem dX0_init_11 : decode cX0_init 11 = .ok (.aload_n 0, 1) := by decide +kernel
theorem dX0_init_12 : decode cX0_init 12 = .ok (.iload_n 1, 1) := by decide +kernel
theorem dX0_init_13 : decode cX0_init 13 = .ok (.newarray .int, 2) := by decide +kernel
theorem dX0_init_15 : decode cX0_init 15 = .ok (.putfield 15, 3) := by decide +kernel
theorem dX0_init_18 : decode cX0_init 18 = .ok (.aload_n 0, 1) := by decide +kernel
theorem dX0_init_19 : decode cX0_init 19 = .ok (.iload_n 1, 1) := by decide +kernel
theorem dX0_init_20 : decode cX0_init 20 = .ok (.newarray .int, 2) := by decide +kernel
theorem dX0_init_22 : decode cX0_init 22 = .ok (.putfield 18, 3) := by decide +kernel
theorem dX0_init_25 : decode cX0_init 25 = .ok (.aload_n 0, 1) := by decide +kernel
theorem dX0_init_26 : decode cX0_init 26 = .ok (.getfield 15, 3) := by decide +kernel
theorem dX0_init_29 : decode cX0_init 29 = .ok (.bipush (-6), 2) := by decide +kernel
theorem dX0_init_31 : decode cX0_init 31 = .ok (.invokestatic 21, 3) := by decide +kernel
theorem dX0_init_34 : decode cX0_init 34 = .ok (.aload_n 0, 1) := by decide +kernel
theorem dX0_init_35 : decode cX0_init 35 = .ok (.getfield 18, 3) := by decide +kernel
theorem dX0_init_38 : decode cX0_init 38 = .ok (.bipush (-6), 2) := by decide +kernel
theorem dX0_init_40 : decode cX0_init 40 = .ok (.invokestatic 21, 3) := by decide +kernel
theorem dX0_init_43 : decode cX0_init 43 = .ok (.return_, 1) := by decide +kernel
theorem dX0_isPoisoned_0 : decode cX0_isPoisoned 0 = .ok (.aload_n 0, 1) := by decide +kernel
theorem dX0_isPoisoned_1 : decode cX0_isPoisoned 1 = .ok (.getfield 15, 3) := by decide +kernel
theorem dX0_isPoisoned_4 : decode cX0_isPoisoned 4 = .ok (.iload_n 1, 1) := by decide +kernel
theorem dX0_isPoisoned_5 : decode cX0_isPoisoned 5 = .ok (.iaload, 1) := by decide +kernel
theorem dX0_isPoisoned_6 : decode cX0_isPoisoned 6 = .ok (.bipush (-6), 2) := by decide +kernel
theorem dX0_isPoisoned_8 : decode cX0_isPoisoned 8 = .ok (.if_icmp .eq 7, 3) := by decide +kernel
theorem dX0_isPoisoned_11 : decode cX0_isPoisoned 11 = .ok (.iconst 1, 1) := by decide +kernel
theorem dX0_isPoisoned_12 : decode cX0_isPoisoned 12 = .ok (.goto 4, 3) := by decide +kernel
theorem dX0_isPoisoned_15 : decode cX0_isPoisoned 15 = .ok (.iconst 0, 1) := by decide +kernel
theorem dX0_isPoisoned_16 : decode cX0_isPoisoned 16 = .ok (.ireturn, 1) := by decide +kernel
theorem dX0_setMark_0 : decode cX0_setMark 0 = .ok (.aload_n 0, 1) := by decide +kernel
theorem dX0_setMark_1 : decode cX0_setMark 1 = .ok (.getfield 15, 3) := by decide +kernel
theorem dX0_setMark_4 : decode cX0_setMark 4 = .ok (.iload_n 1, 1) := by decide +kernel
theorem dX0_setMark_5 : decode cX0_setMark 5 = .ok (.iload_n 2, 1) := by decide +kernel
theorem dX0_setMark_6 : decode cX0_setMark 6 = .ok (.iastore, 1) := by decide +kernel
theorem dX0_setMark_7 : decode cX0_setMark 7 = .ok (.aload_n 0, 1) := by decide +kernel
theorem dX0_setMark_8 : decode cX0_setMark 8 = .ok (.getfield 18, 3) := by decide +kernel
theorem dX0_setMark_11 : decode cX0_setMark 11 = .ok (.iload_n 1, 1) := by decide +kernel
theorem dX0_setMark_12 : decode cX0_setMark 12 = .ok (.iload_n 3, 1) := by decide +kernel
theorem dX0_setMark_13 : decode cX0_setMark 13 = .ok (.iastore, 1) := by decide +kernel
theorem dX0_setMark_14 : decode cX0_setMark 14 = .ok (.return_, 1) := by decide +kernel
set_option maxRecDepth 20000 in
theorem ggX0_setClean_X0_setMark : GoodIn wsX0_setClean wsX0_setMark := goodIn_r _ [6, 7, 8, 9, 10, 11] (by decide +kernel) (by decide +kernel)
set_option maxRecDepth 20000 in
theorem gX0_setClean_X0_setMark : GoodIn wsX0_setClean (wsV RX0 27 RX0 yX0_setMark wsX0_setMark) := goodIn_app (goodIn_of _ (by decide +kernel)) ggX0_setClean_X0_setMark
theorem dX0_setClean_0 : decode cX0_setClean 0 = .ok (.aload_n 0, 1) := by decide +kernel
theorem dX0_setClean_1 : decode cX0_setClean 1 = .ok (.getfield 9, 3) := by decide +kernel
theorem dX0_setClean_4 : decode cX0_setClean 4 = .ok (.iload_n 1, 1) := by decide +kernel
theorem dX0_setClean_5 : decode cX0_setClean 5 = .ok (.iload_n 2, 1) := by decide +kernel
theorem dX0_setClean_6 : decode cX0_setClean 6 = .ok (.iastore, 1) := by decide +kernel
theorem dX0_setClean_7 : decode cX0_setClean 7 = .ok (.aload_n 0, 1) := by decide +kernel
theorem dX0_setClean_8 : decode cX0_setClean 8 = .ok (.iload_n 1, 1) := by decide +kernel
theorem dX0_setClean_9 : decode cX0_setClean 9 = .ok (.bipush (-6), 2) := by decide +kernel
theorem dX0_setClean_11 : decode cX0_setClean 11 = .ok (.bipush (-6), 2) := by decide +kernel
theorem dX0_setClean_13 : decode cX0_setClean 13 = .ok (.invokevirtual 27, 3) := by decide +kernel
theorem dX0_setClean_16 : decode cX0_setClean 16 = .ok (.return_, 1) := by decide +kernel
set_option maxRecDepth 20000 in
theorem ggX0_setEqual_X0_setMark : GoodIn wsX0_setEqual wsX0_setMark := goodIn_r _ [8, 2, 3, 9, 10, 11] (by decide +kernel) (by decide +kernel)
set_option maxRecDepth 20000 in
theorem gX0_setEqual_X0_setMark : GoodIn wsX0_setEqual (wsV RX0 27 RX0 yX0_setMark wsX0_setMark) := goodIn_app (goodIn_of _ (by decide +kernel)) ggX0_setEqual_X0_setMark
theorem dX0_setEqual_0 : decode cX0_setEqual 0 = .ok (.aload_n 0, 1) := by decide +kernel
theorem dX0_setEqual_1 : decode cX0_setEqual 1 = .ok (.getfield 9, 3) := by decide +kernel
theorem dX0_setEqual_4 : decode cX0_setEqual 4 = .ok (.iload_n 1, 1) := by decide +kernel
theorem dX0_setEqual_5 : decode cX0_setEqual 5 = .ok (.aload_n 2, 1) := by decide +kernel
theorem dX0_setEqual_6 : decode cX0_setEqual 6 = .ok (.getfield 9, 3) := by decide +kernel
theorem dX0_setEqual_9 : decode cX0_setEqual 9 = .ok (.iload_n 3, 1) := by decide +kernel
theorem dX0_setEqual_10 : decode cX0_setEqual 10 = .ok (.iaload, 1) := by decide +kernel
theorem dX0_setEqual_11 : decode cX0_setEqual 11 = .ok (.iastore, 1) := by decide +kernel
theorem dX0_setEqual_12 : decode cX0_setEqual 12 = .ok (.aload_n 0, 1) := by decide +kernel
theorem dX0_setEqual_13 : decode cX0_setEqual 13 = .ok (.iload_n 1, 1) := by decide +kernel
theorem dX0_setEqual_14 : decode cX0_setEqual 14 = .ok (.aload_n 2, 1) := by decide +kernel
theorem dX0_setEqual_15 : decode cX0_setEqual 15 = .ok (.getfield 15, 3) := by decide +kernel
theorem dX0_setEqual_18 : decode cX0_setEqual 18 = .ok (.iload_n 3, 1) := by decide +kernel
theorem dX0_setEqual_19 : decode cX0_setEqual 19 = .ok (.iaload, 1) := by decide +kernel
theorem dX0_setEqual_20 : decode cX0_setEqual 20 = .ok (.aload_n 2, 1) := by decide +kernel
theorem dX0_setEqual_21 : decode cX0_setEqual 21 = .ok (.getfield 18, 3) := by decide +kernel
theorem dX0_setEqual_24 : decode cX0_setEqual 24 = .ok (.iload_n 3, 1) := by decide +kernel
theorem dX0_setEqual_25 : decode cX0_setEqual 25 = .ok (.iaload, 1) := by decide +kernel
theorem dX0_setEqual_26 : decode cX0_setEqual 26 = .ok (.invokevirtual 27, 3) := by decide +kernel
theorem dX0_setEqual_29 : decode cX0_setEqual 29 = .ok (.return_, 1) := by decide +kernel
set_option maxRecDepth 20000 in
theorem ggX0_copyMark_X0_isPoisoned : GoodIn wsX0_copyMark wsX0_isPoisoned := goodIn_r _ [11, 1, 16, 17, 18] (by decide +kernel) (by decide +kernel)
set_option maxRecDepth 20000 in
theorem gX0_copyMark_X0_isPoisoned : GoodIn wsX0_copyMark (wsV RX0 31 RX0 yX0_isPoisoned wsX0_isPoisoned) := goodIn_app (goodIn_of _ (by decide +kernel)) ggX0_copyMark_X0_isPoisoned
set_option maxRecDepth 20000 in
theorem ggX0_copyMark_X0_setMark : GoodIn wsX0_copyMark wsX0_setMark := goodIn_r _ [15, 1, 2, 16, 17, 18] (by decide +kernel) (by decide +kernel)
set_option maxRecDepth 20000 in
theorem gX0_copyMark_X0_setMark : GoodIn wsX0_copyMark (wsV RX0 27 RX0 yX0_setMark wsX0_setMark) := goodIn_app (goodIn_of _ (by decide +kernel)) ggX0_copyMark_X0_setMark
theorem dX0_copyMark_0 : decode cX0_copyMark 0 = .ok (.aload_n 2, 1) := by decide +kernel
theorem dX0_copyMark_1 : decode cX0_copyMark 1 = .ok (.iload_n 3, 1) := by decide +kernel
theorem dX0_copyMark_2 : decode cX0_copyMark 2 = .ok (.invokevirtual 31, 3) := by decide +kernel
theorem dX0_copyMark_5 : decode cX0_copyMark 5 = .ok (.ifCond .eq 30, 3) := by decide +kernel
theorem dX0_copyMark_8 : decode cX0_copyMark 8 = .ok (.aload_n 0, 1) := by decide +kernel
theorem dX0_copyMark_9 : decode cX0_copyMark 9 = .ok (.iload_n 1, 1) := by decide +kernel
theorem dX0_copyMark_10 : decode cX0_copyMark 10 = .ok (.aload_n 2, 1) := by decide +kernel
theorem dX0_copyMark_11 : decode cX0_copyMark 11 = .ok (.getfield 15, 3) := by decide +kernel
theorem dX0_copyMark_14 : decode cX0_copyMark 14 = .ok (.iload_n 3, 1) := by decide +kernel
theorem dX0_copyMark_15 : decode cX0_copyMark 15 = .ok (.iaload, 1) := by decide +kernel
theorem dX0_copyMark_16 : decode cX0_copyMark 16 = .ok (.aload_n 2, 1) := by decide +kernel
theorem dX0_copyMark_17 : decode cX0_copyMark 17 = .ok (.getfield 18, 3) := by decide +kernel
theorem dX0_copyMark_20 : decode cX0_copyMark 20 = .ok (.iload_n 3, 1) := by decide +kernel
theorem dX0_copyMark_21 : decode cX0_copyMark 21 = .ok (.iaload, 1) := by decide +kernel
theorem dX0_copyMark_22 : decode cX0_copyMark 22 = .ok (.iconst 1, 1) := by decide +kernel
theorem dX0_copyMark_23 : decode cX0_copyMark 23 = .ok (.iadd, 1) := by decide +kernel
theorem dX0_copyMark_24 : decode cX0_copyMark 24 = .ok (.bipush 99, 2) := by decide +kernel
theorem dX0_copyMark_26 : decode cX0_copyMark 26 = .ok (.invokestatic 35, 3) := by decide +kernel
theorem dX0_copyMark_29 : decode cX0_copyMark 29 = .ok (.invokevirtual 27, 3) := by decide +kernel
theorem dX0_copyMark_32 : decode cX0_copyMark 32 = .ok (.goto 12, 3) := by decide +kernel
theorem dX0_copyMark_35 : decode cX0_copyMark 35 = .ok (.aload_n 0, 1) := by decide +kernel
theorem dX0_copyMark_36 : decode cX0_copyMark 36 = .ok (.iload_n 1, 1) := by decide +kernel
theorem dX0_copyMark_37 : decode cX0_copyMark 37 = .ok (.bipush (-6), 2) := by decide +kernel
theorem dX0_copyMark_39 : decode cX0_copyMark 39 = .ok (.bipush (-6), 2) := by decide +kernel
theorem dX0_copyMark_41 : decode cX0_copyMark 41 = .ok (.invokevirtual 27, 3) := by decide +kernel
theorem dX0_copyMark_44 : decode cX0_copyMark 44 = .ok (.return_, 1) := by decide +kernel
theorem dX0_become_0 : decode cX0_become 0 = .ok (.aload_n 1, 1) := by decide +kernel
theorem dX0_become_1 : decode cX0_become 1 = .ok (.getfield 9, 3) := by decide +kernel
theorem dX0_become_4 : decode cX0_become 4 = .ok (.iconst 0, 1) := by decide +kernel
theorem dX0_become_5 : decode cX0_become 5 = .ok (.aload_n 0, 1) := by decide +kernel
theorem dX0_become_6 : decode cX0_become 6 = .ok (.getfield 9, 3) := by decide +kernel
theorem dX0_become_9 : decode cX0_become 9 = .ok (.iconst 0, 1) := by decide +kernel
theorem dX0_become_10 : decode cX0_become 10 = .ok (.aload_n 0, 1) := by decide +kernel
theorem dX0_become_11 : decode cX0_become 11 = .ok (.getfield 9, 3) := by decide +kernel
theorem dX0_become_14 : decode cX0_become 14 = .ok (.arraylength, 1) := by decide +kernel
theorem dX0_become_15 : decode cX0_become 15 = .ok (.invokestatic 41, 3) := by decide +kernel
theorem dX0_become_18 : decode cX0_become 18 = .ok (.aload_n 1, 1) := by decide +kernel
theorem dX0_become_19 : decode cX0_become 19 = .ok (.getfield 15, 3) := by decide +kernel
theorem dX0_become_22 : decode cX0_become 22 = .ok (.iconst 0, 1) := by decide +kernel
theorem dX0_become_23 : decode cX0_become 23 = .ok (.aload_n 0, 1) := by decide +kernel
theorem dX0_become_24 : decode cX0_become 24 = .ok (.getfield 15, 3) := by decide +kernel
theorem dX0_become_27 : decode cX0_become 27 = .ok (.iconst 0, 1) := by decide +kernel
theorem dX0_become_28 : decode cX0_become 28 = .ok (.aload_n 0, 1) := by decide +kernel
theorem dX0_become_29 : decode cX0_become 29 = .ok (.getfield 15, 3) := by decide +kernel
theorem dX0_become_32 : decode cX0_become 32 = .ok (.arraylength, 1) := by decide +kernel
theorem dX0_become_33 : decode cX0_become 33 = .ok (.invokestatic 41, 3) := by decide +kernel
theorem dX0_become_36 : decode cX0_become 36 = .ok (.aload_n 1, 1) := by decide +kernel
theorem dX0_become_37 : decode cX0_become 37 = .ok (.getfield 18, 3) := by decide +kernel
theorem dX0_become_40 : decode cX0_become 40 = .ok (.iconst 0, 1) := by decide +kernel
theorem dX0_become_41 : decode cX0_become 41 = .ok (.aload_n 0, 1) := by decide +kernel
theorem dX0_become_42 : decode cX0_become 42 = .ok (.getfield 18, 3) := by decide +kernel
theorem dX0_become_45 : decode cX0_become 45 = .ok (.iconst 0, 1) := by decide +kernel
theorem dX0_become_46 : decode cX0_become 46 = .ok (.aload_n 0, 1) := by decide +kernel
theorem dX0_become_47 : decode cX0_become 47 = .ok (.getfield 18, 3) := by decide +kernel
theorem dX0_become_50 : decode cX0_become 50 = .ok (.arraylength, 1) := by decide +kernel
theorem dX0_become_51 : decode cX0_become 51 = .ok (.invokestatic 41, 3) := by decide +kernel
theorem dX0_become_54 : decode cX0_become 54 = .ok (.return_, 1) := by decide +kernel
set_option maxRecDepth 20000 in
theorem ggX0_countPoisoned_X0_isPoisoned : GoodIn wsX0_countPoisoned wsX0_isPoisoned := goodIn_r _ [5, 6, 7, 8, 9] (by decide +kernel) (by decide +kernel)
set_option maxRecDepth 20000 in
theorem gX0_countPoisoned_X0_isPoisoned : GoodIn wsX0_countPoisoned (wsV RX0 31 RX0 yX0_isPoisoned wsX0_isPoisoned) := goodIn_app (goodIn_of _ (by decide +kernel)) ggX0_countPoisoned_X0_isPoisoned
theorem dX0_countPoisoned_0 : decode cX0_countPoisoned 0 = .ok (.iconst 0, 1) := by decide +kernel
theorem dX0_countPoisoned_1 : decode cX0_countPoisoned 1 = .ok (.istore_n 3, 1) := by decide +kernel
theorem dX0_countPoisoned_2 : decode cX0_countPoisoned 2 = .ok (.iload_n 1, 1) := by decide +kernel
theorem dX0_countPoisoned_3 : decode cX0_countPoisoned 3 = .ok (.istore 4, 2) := by decide +kernel
theorem dX0_countPoisoned_5 : decode cX0_countPoisoned 5 = .ok (.iload 4, 2) := by decide +kernel
theorem dX0_countPoisoned_7 : decode cX0_countPoisoned 7 = .ok (.iload_n 2, 1) := by decide +kernel
theorem dX0_countPoisoned_8 : decode cX0_countPoisoned 8 = .ok (.if_icmp .ge 21, 3) := by decide +kernel
theorem dX0_countPoisoned_11 : decode cX0_countPoisoned 11 = .ok (.aload_n 0, 1) := by decide +kernel
theorem dX0_countPoisoned_12 : decode cX0_countPoisoned 12 = .ok (.iload 4, 2) := by decide +kernel
theorem dX0_countPoisoned_14 : decode cX0_countPoisoned 14 = .ok (.invokevirtual 31, 3) := by decide +kernel
theorem dX0_countPoisoned_17 : decode cX0_countPoisoned 17 = .ok (.ifCond .eq 6, 3) := by decide +kernel
theorem dX0_countPoisoned_20 : decode cX0_countPoisoned 20 = .ok (.iinc 3 1, 3) := by decide +kernel
theorem dX0_countPoisoned_23 : decode cX0_countPoisoned 23 = .ok (.iinc 4 1, 3) := by decide +kernel
theorem dX0_countPoisoned_26 : decode cX0_countPoisoned 26 = .ok (.goto (-21), 3) := by decide +kernel
theorem dX0_countPoisoned_29 : decode cX0_countPoisoned 29 = .ok (.iload_n 3, 1) := by decide +kernel
theorem dX0_countPoisoned_30 : decode cX0_countPoisoned 30 = .ok (.ireturn, 1) := by decide +kernel
theorem dX0_countOrigin_0 : decode cX0_countOrigin 0 = .ok (.iconst 0, 1) := by decide +kernel
theorem dX0_countOrigin_1 : decode cX0_countOrigin 1 = .ok (.istore_n 2, 1) := by decide +kernel
theorem dX0_countOrigin_2 : decode cX0_countOrigin 2 = .ok (.iconst 0, 1) := by decide +kernel
theorem dX0_countOrigin_3 : decode cX0_countOrigin 3 = .ok (.istore_n 3, 1) := by decide +kernel
theorem dX0_countOrigin_4 : decode cX0_countOrigin 4 = .ok (.iload_n 3, 1) := by decide +kernel
theorem dX0_countOrigin_5 : decode cX0_countOrigin 5 = .ok (.aload_n 0, 1) := by decide +kernel
theorem dX0_countOrigin_6 : decode cX0_countOrigin 6 = .ok (.getfield 15, 3) := by decide +kernel
theorem dX0_countOrigin_9 : decode cX0_countOrigin 9 = .ok (.arraylength, 1) := by decide +kernel
theorem dX0_countOrigin_10 : decode cX0_countOrigin 10 = .ok (.if_icmp .ge 22, 3) := by decide +kernel
theorem dX0_countOrigin_13 : decode cX0_countOrigin 13 = .ok (.aload_n 0, 1) := by decide +kernel
theorem dX0_countOrigin_14 : decode cX0_countOrigin 14 = .ok (.getfield 15, 3) := by decide +kernel
theorem dX0_countOrigin_17 : decode cX0_countOrigin 17 = .ok (.iload_n 3, 1) := by decide +kernel
theorem dX0_countOrigin_18 : decode cX0_countOrigin 18 = .ok (.iaload, 1) := by decide +kernel
theorem dX0_countOrigin_19 : decode cX0_countOrigin 19 = .ok (.iload_n 1, 1) := by decide +kernel
theorem dX0_countOrigin_20 : decode cX0_countOrigin 20 = .ok (.if_icmp .ne 6, 3) := by decide +kernel
theorem dX0_countOrigin_23 : decode cX0_countOrigin 23 = .ok (.iinc 2 1, 3) := by decide +kernel
theorem dX0_countOrigin_26 : decode cX0_countOrigin 26 = .ok (.iinc 3 1, 3) := by decide +kernel
theorem dX0_countOrigin_29 : decode cX0_countOrigin 29 = .ok (.goto (-25), 3) := by decide +kernel
theorem dX0_countOrigin_32 : decode cX0_countOrigin 32 = .ok (.iload_n 2, 1) := by decide +kernel
theorem dX0_countOrigin_33 : decode cX0_countOrigin 33 = .ok (.ireturn, 1) := by decide +kernel
theorem dX0_mostHops_0 : decode cX0_mostHops 0 = .ok (.bipush (-6), 2) := by decide +kernel
theorem dX0_mostHops_2 : decode cX0_mostHops 2 = .ok (.istore_n 2, 1) := by decide +kernel
theorem dX0_mostHops_3 : decode cX0_mostHops 3 = .ok (.iconst 0, 1) := by decide +kernel
theorem dX0_mostHops_4 : decode cX0_mostHops 4 = .ok (.istore_n 3, 1) := by decide +kernel
theorem dX0_mostHops_5 : decode cX0_mostHops 5 = .ok (.iload_n 3, 1) := by decide +kernel
theorem dX0_mostHops_6 : decode cX0_mostHops 6 = .ok (.aload_n 0, 1) := by decide +kernel
theorem dX0_mostHops_7 : decode cX0_mostHops 7 = .ok (.getfield 15, 3) := by decide +kernel
theorem dX0_mostHops_10 : decode cX0_mostHops 10 = .ok (.arraylength, 1) := by decide +kernel
theorem dX0_mostHops_11 : decode cX0_mostHops 11 = .ok (.if_icmp .ge 30, 3) := by decide +kernel
theorem dX0_mostHops_14 : decode cX0_mostHops 14 = .ok (.aload_n 0, 1) := by decide +kernel
theorem dX0_mostHops_15 : decode cX0_mostHops 15 = .ok (.getfield 15, 3) := by decide +kernel
theorem dX0_mostHops_18 : decode cX0_mostHops 18 = .ok (.iload_n 3, 1) := by decide +kernel
theorem dX0_mostHops_19 : decode cX0_mostHops 19 = .ok (.iaload, 1) := by decide +kernel
theorem dX0_mostHops_20 : decode cX0_mostHops 20 = .ok (.iload_n 1, 1) := by decide +kernel
theorem dX0_mostHops_21 : decode cX0_mostHops 21 = .ok (.if_icmp .ne 14, 3) := by decide +kernel
theorem dX0_mostHops_24 : decode cX0_mostHops 24 = .ok (.iload_n 2, 1) := by decide +kernel
theorem dX0_mostHops_25 : decode cX0_mostHops 25 = .ok (.aload_n 0, 1) := by decide +kernel
theorem dX0_mostHops_26 : decode cX0_mostHops 26 = .ok (.getfield 18, 3) := by decide +kernel
theorem dX0_mostHops_29 : decode cX0_mostHops 29 = .ok (.iload_n 3, 1) := by decide +kernel
theorem dX0_mostHops_30 : decode cX0_mostHops 30 = .ok (.iaload, 1) := by decide +kernel
theorem dX0_mostHops_31 : decode cX0_mostHops 31 = .ok (.invokestatic 47, 3) := by decide +kernel
theorem dX0_mostHops_34 : decode cX0_mostHops 34 = .ok (.istore_n 2, 1) := by decide +kernel
theorem dX0_mostHops_35 : decode cX0_mostHops 35 = .ok (.iinc 3 1, 3) := by decide +kernel
theorem dX0_mostHops_38 : decode cX0_mostHops 38 = .ok (.goto (-33), 3) := by decide +kernel
theorem dX0_mostHops_41 : decode cX0_mostHops 41 = .ok (.iload_n 2, 1) := by decide +kernel
theorem dX0_mostHops_42 : decode cX0_mostHops 42 = .ok (.ireturn, 1) := by decide +kernel
theorem dX1_init_0 : decode cX1_init 0 = .ok (.aload_n 0, 1) := by decide +kernel
theorem dX1_init_1 : decode cX1_init 1 = .ok (.invokespecial 3, 3) := by decide +kernel
theorem dX1_init_4 : decode cX1_init 4 = .ok (.aload_n 0, 1) := by decide +kernel
theorem dX1_init_5 : decode cX1_init 5 = .ok (.bipush 32, 2) := by decide +kernel
theorem dX1_init_7 : decode cX1_init 7 = .ok (.newarray .int, 2) := by decide +kernel
theorem dX1_init_9 : decode cX1_init 9 = .ok (.putfield 9, 3) := by decide +kernel
theorem dX1_init_12 : decode cX1_init 12 = .ok (.return_, 1) := by decide +kernel
theorem dX1_add_0 : decode cX1_add 0 = .ok (.aload_n 0, 1) := by decide +kernel
theorem dX1_add_1 : decode cX1_add 1 = .ok (.getfield 9, 3) := by decide +kernel
theorem dX1_add_4 : decode cX1_add 4 = .ok (.iconst 0, 1) := by decide +kernel
theorem dX1_add_5 : decode cX1_add 5 = .ok (.aload_n 0, 1) := by decide +kernel
theorem dX1_add_6 : decode cX1_add 6 = .ok (.getfield 9, 3) := by decide +kernel
theorem dX1_add_9 : decode cX1_add 9 = .ok (.iconst 4, 1) := by decide +kernel
theorem dX1_add_10 : decode cX1_add 10 = .ok (.aload_n 0, 1) := by decide +kernel
theorem dX1_add_11 : decode cX1_add 11 = .ok (.getfield 9, 3) := by decide +kernel
theorem dX1_add_14 : decode cX1_add 14 = .ok (.arraylength, 1) := by decide +kernel
theorem dX1_add_15 : decode cX1_add 15 = .ok (.iconst 4, 1) := by decide +kernel
theorem dX1_add_16 : decode cX1_add 16 = .ok (.isub, 1) := by decide +kernel
theorem dX1_add_17 : decode cX1_add 17 = .ok (.invokestatic 15, 3) := by decide +kernel
theorem dX1_add_20 : decode cX1_add 20 = .ok (.aload_n 0, 1) := by decide +kernel
theorem dX1_add_21 : decode cX1_add 21 = .ok (.getfield 9, 3) := by decide +kernel
theorem dX1_add_24 : decode cX1_add 24 = .ok (.iconst 0, 1) := by decide +kernel
theorem dX1_add_25 : decode cX1_add 25 = .ok (.iload_n 1, 1) := by decide +kernel
theorem dX1_add_26 : decode cX1_add 26 = .ok (.iastore, 1) := by decide +kernel
theorem dX1_add_27 : decode cX1_add 27 = .ok (.aload_n 0, 1) := by decide +kernel
theorem dX1_add_28 : decode cX1_add 28 = .ok (.getfield 9, 3) := by decide +kernel
theorem dX1_add_31 : decode cX1_add 31 = .ok (.iconst 1, 1) := by decide +kernel
theorem dX1_add_32 : decode cX1_add 32 = .ok (.iload_n 2, 1) := by decide +kernel
theorem dX1_add_33 : decode cX1_add 33 = .ok (.iastore, 1) := by decide +kernel
theorem dX1_add_34 : decode cX1_add 34 = .ok (.aload_n 0, 1) := by decide +kernel
theorem dX1_add_35 : decode cX1_add 35 = .ok (.getfield 9, 3) := by decide +kernel
theorem dX1_add_38 : decode cX1_add 38 = .ok (.iconst 2, 1) := by decide +kernel
theorem dX1_add_39 : decode cX1_add 39 = .ok (.iload_n 3, 1) := by decide +kernel
theorem dX1_add_40 : decode cX1_add 40 = .ok (.iastore, 1) := by decide +kernel
theorem dX1_add_41 : decode cX1_add 41 = .ok (.aload_n 0, 1) := by decide +kernel
theorem dX1_add_42 : decode cX1_add 42 = .ok (.getfield 9, 3) := by decide +kernel
theorem dX1_add_45 : decode cX1_add 45 = .ok (.iconst 3, 1) := by decide +kernel
theorem dX1_add_46 : decode cX1_add 46 = .ok (.iload 4, 2) := by decide +kernel
theorem dX1_add_48 : decode cX1_add 48 = .ok (.iastore, 1) := by decide +kernel
theorem dX1_add_49 : decode cX1_add 49 = .ok (.aload_n 0, 1) := by decide +kernel
theorem dX1_add_50 : decode cX1_add 50 = .ok (.aload_n 0, 1) := by decide +kernel
theorem dX1_add_51 : decode cX1_add 51 = .ok (.getfield 21, 3) := by decide +kernel
theorem dX1_add_54 : decode cX1_add 54 = .ok (.iconst 1, 1) := by decide +kernel
theorem dX1_add_55 : decode cX1_add 55 = .ok (.iadd, 1) := by decide +kernel
theorem dX1_add_56 : decode cX1_add 56 = .ok (.bipush 8, 2) := by decide +kernel
theorem dX1_add_58 : decode cX1_add 58 = .ok (.invokestatic 25, 3) := by decide +kernel
theorem dX1_add_61 : decode cX1_add 61 = .ok (.putfield 21, 3) := by decide +kernel
theorem dX1_add_64 : decode cX1_add 64 = .ok (.aload_n 0, 1) := by decide +kernel
theorem dX1_add_65 : decode cX1_add 65 = .ok (.dup, 1) := by decide +kernel
theorem dX1_add_66 : decode cX1_add 66 = .ok (.getfield 31, 3) := by decide +kernel
theorem dX1_add_69 : decode cX1_add 69 = .ok (.iconst 1, 1) := by decide +kernel
theorem dX1_add_70 : decode cX1_add 70 = .ok (.iadd, 1) := by decide +kernel
theorem dX1_add_71 : decode cX1_add 71 = .ok (.putfield 31, 3) := by decide +kernel
theorem dX1_add_74 : decode cX1_add 74 = .ok (.return_, 1) := by decide +kernel
theorem dX1_become_0 : decode cX1_become 0 = .ok (.aload_n 1, 1) := by decide +kernel
theorem dX1_become_1 : decode cX1_become 1 = .ok (.getfield 9, 3) := by decide +kernel
theorem dX1_become_4 : decode cX1_become 4 = .ok (.iconst 0, 1) := by decide +kernel
theorem dX1_become_5 : decode cX1_become 5 = .ok (.aload_n 0, 1) := by decide +kernel
theorem dX1_become_6 : decode cX1_become 6 = .ok (.getfield 9, 3) := by decide +kernel
theorem dX1_become_9 : decode cX1_become 9 = .ok (.iconst 0, 1) := by decide +kernel
theorem dX1_become_10 : decode cX1_become 10 = .ok (.aload_n 0, 1) := by decide +kernel
theorem dX1_become_11 : decode cX1_become 11 = .ok (.getfield 9, 3) := by decide +kernel
theorem dX1_become_14 : decode cX1_become 14 = .ok (.arraylength, 1) := by decide +kernel
theorem dX1_become_15 : decode cX1_become 15 = .ok (.invokestatic 15, 3) := by decide +kernel
theorem dX1_become_18 : decode cX1_become 18 = .ok (.aload_n 0, 1) := by decide +kernel
theorem dX1_become_19 : decode cX1_become 19 = .ok (.aload_n 1, 1) := by decide +kernel
theorem dX1_become_20 : decode cX1_become 20 = .ok (.getfield 21, 3) := by decide +kernel
theorem dX1_become_23 : decode cX1_become 23 = .ok (.putfield 21, 3) := by decide +kernel
theorem dX1_become_26 : decode cX1_become 26 = .ok (.aload_n 0, 1) := by decide +kernel
theorem dX1_become_27 : decode cX1_become 27 = .ok (.aload_n 1, 1) := by decide +kernel
theorem dX1_become_28 : decode cX1_become 28 = .ok (.getfield 31, 3) := by decide +kernel
theorem dX1_become_31 : decode cX1_become 31 = .ok (.putfield 31, 3) := by decide +kernel
theorem dX1_become_34 : decode cX1_become 34 = .ok (.return_, 1) := by decide +kernel
set_option maxRecDepth 20000 in
theorem ggX2_init_X3_init : GoodIn wsX2_init wsX3_init := goodIn_r _ [9, 10, 2, 3, 11, 12, 13, 14, 15, 16, 17, 18, 19, 20, 21, 22, 23, 24, 25, 26, 27, 28, 29, 30, 31, 32, 33, 34, 35, 36, 37, 38, 39, 40, 41, 55, 56, 57, 45, 46, 47, 48, 49, 50, 51, 52, 53, 54, 58, 59, 60] (by decide +kernel) (by decide +kernel)
set_option maxRecDepth 20000 in
theorem gX2_init_X3_init_n17 : GoodIn wsX2_init (wsX3_init) := ggX2_init_X3_init
theorem dX2_init_0 : decode cX2_init 0 = .ok (.aload_n 0, 1) := by decide +kernel
theorem dX2_init_1 : decode cX2_init 1 = .ok (.invokespecial 3, 3) := by decide +kernel
theorem dX2_init_4 : decode cX2_init 4 = .ok (.aload_n 0, 1) := by decide +kernel
theorem dX2_init_5 : decode cX2_init 5 = .ok (.iconst 5, 1) := by decide +kernel
theorem dX2_init_6 : decode cX2_init 6 = .ok (.anewarray 11, 3) := by decide +kernel
theorem dX2_init_9 : decode cX2_init 9 = .ok (.putfield 13, 3) := by decide +kernel
theorem dX2_init_12 : decode cX2_init 12 = .ok (.iconst 0, 1) := by decide +kernel
theorem dX2_init_13 : decode cX2_init 13 = .ok (.istore_n 1, 1) := by decide +kernel
theorem dX2_init_14 : decode cX2_init 14 = .ok (.iload_n 1, 1) := by decide +kernel
theorem dX2_init_15 : decode cX2_init 15 = .ok (.iconst 5, 1) := by decide +kernel
theorem dX2_init_16 : decode cX2_init 16 = .ok (.if_icmp .ge 22, 3) := by decide +kernel
theorem dX2_init_19 : decode cX2_init 19 = .ok (.aload_n 0, 1) := by decide +kernel
theorem dX2_init_20 : decode cX2_init 20 = .ok (.getfield 13, 3) := by decide +kernel
theorem dX2_init_23 : decode cX2_init 23 = .ok (.iload_n 1, 1) := by decide +kernel
theorem dX2_init_24 : decode cX2_init 24 = .ok (.new 11, 3) := by decide +kernel
theorem dX2_init_27 : decode cX2_init 27 = .ok (.dup, 1) := by decide +kernel
theorem dX2_init_28 : decode cX2_init 28 = .ok (.invokespecial 17, 3) := by decide +kernel
theorem dX2_init_31 : decode cX2_init 31 = .ok (.aastore, 1) := by decide +kernel
theorem dX2_init_32 : decode cX2_init 32 = .ok (.iinc 1 1, 3) := by decide +kernel
theorem dX2_init_35 : decode cX2_init 35 = .ok (.goto (-21), 3) := by decide +kernel
theorem dX2_init_38 : decode cX2_init 38 = .ok (.return_, 1) := by decide +kernel
set_option maxRecDepth 20000 in
theorem ggX2_hold_X3_become : GoodIn wsX2_hold wsX3_become := goodIn_r _ [8, 9, 10, 11, 12, 13, 14, 15, 16, 17, 18, 19, 20, 21, 22, 23, 24, 25, 26, 27, 28, 29, 30, 31, 32, 33, 7, 34, 35, 36, 37, 38, 39, 40, 41, 42, 43, 47, 48, 49, 50, 51, 52, 53, 54, 55, 56, 57, 58, 59, 60, 61, 62] (by decide +kernel) (by decide +kernel)
set_option maxRecDepth 20000 in
theorem gX2_hold_X3_become : GoodIn wsX2_hold (wsV RX2 25 RX3 yX3_become wsX3_become) := goodIn_app (goodIn_of _ (by decide +kernel)) ggX2_hold_X3_become
theorem dX2_hold_0 : decode cX2_hold 0 = .ok (.aload_n 0, 1) := by decide +kernel
theorem dX2_hold_1 : decode cX2_hold 1 = .ok (.getfield 13, 3) := by decide +kernel
theorem dX2_hold_4 : decode cX2_hold 4 = .ok (.aload_n 0, 1) := by decide +kernel
theorem dX2_hold_5 : decode cX2_hold 5 = .ok (.getfield 18, 3) := by decide +kernel
theorem dX2_hold_8 : decode cX2_hold 8 = .ok (.aload_n 0, 1) := by decide +kernel
theorem dX2_hold_9 : decode cX2_hold 9 = .ok (.getfield 22, 3) := by decide +kernel
theorem dX2_hold_12 : decode cX2_hold 12 = .ok (.iadd, 1) := by decide +kernel
theorem dX2_hold_13 : decode cX2_hold 13 = .ok (.iconst 5, 1) := by decide +kernel
theorem dX2_hold_14 : decode cX2_hold 14 = .ok (.irem, 1) := by decide +kernel
theorem dX2_hold_15 : decode cX2_hold 15 = .ok (.aaload, 1) := by decide +kernel
theorem dX2_hold_16 : decode cX2_hold 16 = .ok (.aload_n 1, 1) := by decide +kernel
theorem dX2_hold_17 : decode cX2_hold 17 = .ok (.invokevirtual 25, 3) := by decide +kernel
theorem dX2_hold_20 : decode cX2_hold 20 = .ok (.return_, 1) := by decide +kernel
set_option maxRecDepth 20000 in
theorem ggX2_settle_X5_isError : GoodIn wsX2_settle wsX5_isError := goodIn_r _ [3] (by decide +kernel) (by decide +kernel)
set_option maxRecDepth 20000 in
theorem gX2_settle_X5_isError_n29 : GoodIn wsX2_settle (wsX5_isError) := ggX2_settle_X5_isError
set_option maxRecDepth 20000 in
theorem ggX2_settle_X2_keepHeld : GoodIn wsX2_settle wsX2_keepHeld := goodIn_r _ [8, 9, 10, 11, 12, 13] (by decide +kernel) (by decide +kernel)
set_option maxRecDepth 20000 in
theorem gX2_settle_X2_keepHeld : GoodIn wsX2_settle (wsV RX2 33 RX2 yX2_keepHeld wsX2_keepHeld) := goodIn_app (goodIn_of _ (by decide +kernel)) ggX2_settle_X2_keepHeld
theorem dX2_settle_0 : decode cX2_settle 0 = .ok (.iload_n 1, 1) := by decide +kernel
theorem dX2_settle_1 : decode cX2_settle 1 = .ok (.invokestatic 29, 3) := by decide +kernel
theorem dX2_settle_4 : decode cX2_settle 4 = .ok (.ifCond .ne 7, 3) := by decide +kernel
theorem dX2_settle_7 : decode cX2_settle 7 = .ok (.aload_n 0, 1) := by decide +kernel
theorem dX2_settle_8 : decode cX2_settle 8 = .ok (.invokevirtual 33, 3) := by decide +kernel
theorem dX2_settle_11 : decode cX2_settle 11 = .ok (.iload_n 1, 1) := by decide +kernel
theorem dX2_settle_12 : decode cX2_settle 12 = .ok (.ireturn, 1) := by decide +kernel
theorem dX2_keepHeld_0 : decode cX2_keepHeld 0 = .ok (.aload_n 0, 1) := by decide +kernel
theorem dX2_keepHeld_1 : decode cX2_keepHeld 1 = .ok (.getfield 22, 3) := by decide +kernel
theorem dX2_keepHeld_4 : decode cX2_keepHeld 4 = .ok (.iconst 4, 1) := by decide +kernel
theorem dX2_keepHeld_5 : decode cX2_keepHeld 5 = .ok (.if_icmp .ge 16, 3) := by decide +kernel
theorem dX2_keepHeld_8 : decode cX2_keepHeld 8 = .ok (.aload_n 0, 1) := by decide +kernel
theorem dX2_keepHeld_9 : decode cX2_keepHeld 9 = .ok (.dup, 1) := by decide +kernel
theorem dX2_keepHeld_10 : decode cX2_keepHeld 10 = .ok (.getfield 22, 3) := by decide +kernel
theorem dX2_keepHeld_13 : decode cX2_keepHeld 13 = .ok (.iconst 1, 1) := by decide +kernel
theorem dX2_keepHeld_14 : decode cX2_keepHeld 14 = .ok (.iadd, 1) := by decide +kernel
theorem dX2_keepHeld_15 : decode cX2_keepHeld 15 = .ok (.putfield 22, 3) := by decide +kernel
theorem dX2_keepHeld_18 : decode cX2_keepHeld 18 = .ok (.goto 15, 3) := by decide +kernel
theorem dX2_keepHeld_21 : decode cX2_keepHeld 21 = .ok (.aload_n 0, 1) := by decide +kernel
theorem dX2_keepHeld_22 : decode cX2_keepHeld 22 = .ok (.aload_n 0, 1) := by decide +kernel
theorem dX2_keepHeld_23 : decode cX2_keepHeld 23 = .ok (.getfield 18, 3) := by decide +kernel
theorem dX2_keepHeld_26 : decode cX2_keepHeld 26 = .ok (.iconst 1, 1) := by decide +kernel
theorem dX2_keepHeld_27 : decode cX2_keepHeld 27 = .ok (.iadd, 1) := by decide +kernel
theorem dX2_keepHeld_28 : decode cX2_keepHeld 28 = .ok (.iconst 5, 1) := by decide +kernel
theorem dX2_keepHeld_29 : decode cX2_keepHeld 29 = .ok (.irem, 1) := by decide +kernel
theorem dX2_keepHeld_30 : decode cX2_keepHeld 30 = .ok (.putfield 18, 3) := by decide +kernel
theorem dX2_keepHeld_33 : decode cX2_keepHeld 33 = .ok (.return_, 1) := by decide +kernel
set_option maxRecDepth 20000 in
theorem ggX2_restore_X3_become : GoodIn wsX2_restore wsX3_become := goodIn_r _ [8, 9, 10, 11, 12, 13, 14, 15, 16, 17, 18, 19, 20, 21, 22, 23, 24, 25, 26, 27, 28, 29, 30, 31, 32, 33, 7, 34, 35, 36, 37, 38, 39, 40, 41, 42, 43, 47, 48, 49, 50, 51, 52, 53, 54, 55, 56, 57, 58, 59, 60, 61, 62] (by decide +kernel) (by decide +kernel)
set_option maxRecDepth 20000 in
theorem gX2_restore_X3_become : GoodIn wsX2_restore (wsV RX2 25 RX3 yX3_become wsX3_become) := goodIn_app (goodIn_of _ (by decide +kernel)) ggX2_restore_X3_become
theorem dX2_restore_0 : decode cX2_restore 0 = .ok (.aload_n 0, 1) := by decide +kernel
theorem dX2_restore_1 : decode cX2_restore 1 = .ok (.getfield 22, 3) := by decide +kernel
theorem dX2_restore_4 : decode cX2_restore 4 = .ok (.ifCond .ne 6, 3) := by decide +kernel
theorem dX2_restore_7 : decode cX2_restore 7 = .ok (.bipush (-6), 2) := by decide +kernel
theorem dX2_restore_9 : decode cX2_restore 9 = .ok (.ireturn, 1) := by decide +kernel
theorem dX2_restore_10 : decode cX2_restore 10 = .ok (.aload_n 0, 1) := by decide +kernel
theorem dX2_restore_11 : decode cX2_restore 11 = .ok (.dup, 1) := by decide +kernel
theorem dX2_restore_12 : decode cX2_restore 12 = .ok (.getfield 22, 3) := by decide +kernel
theorem dX2_restore_15 : decode cX2_restore 15 = .ok (.iconst 1, 1) := by decide +kernel
theorem dX2_restore_16 : decode cX2_restore 16 = .ok (.isub, 1) := by decide +kernel
theorem dX2_restore_17 : decode cX2_restore 17 = .ok (.putfield 22, 3) := by decide +kernel
theorem dX2_restore_20 : decode cX2_restore 20 = .ok (.aload_n 1, 1) := by decide +kernel
theorem dX2_restore_21 : decode cX2_restore 21 = .ok (.aload_n 0, 1) := by decide +kernel
theorem dX2_restore_22 : decode cX2_restore 22 = .ok (.getfield 13, 3) := by decide +kernel
theorem dX2_restore_25 : decode cX2_restore 25 = .ok (.aload_n 0, 1) := by decide +kernel
theorem dX2_restore_26 : decode cX2_restore 26 = .ok (.getfield 18, 3) := by decide +kernel
theorem dX2_restore_29 : decode cX2_restore 29 = .ok (.aload_n 0, 1) := by decide +kernel
theorem dX2_restore_30 : decode cX2_restore 30 = .ok (.getfield 22, 3) := by decide +kernel
theorem dX2_restore_33 : decode cX2_restore 33 = .ok (.iadd, 1) := by decide +kernel
theorem dX2_restore_34 : decode cX2_restore 34 = .ok (.iconst 5, 1) := by decide +kernel
theorem dX2_restore_35 : decode cX2_restore 35 = .ok (.irem, 1) := by decide +kernel
theorem dX2_restore_36 : decode cX2_restore 36 = .ok (.aaload, 1) := by decide +kernel
theorem dX2_restore_37 : decode cX2_restore 37 = .ok (.invokevirtual 25, 3) := by decide +kernel
theorem dX2_restore_40 : decode cX2_restore 40 = .ok (.aload_n 0, 1) := by decide +kernel
theorem dX2_restore_41 : decode cX2_restore 41 = .ok (.getfield 22, 3) := by decide +kernel
theorem dX2_restore_44 : decode cX2_restore 44 = .ok (.ireturn, 1) := by decide +kernel
