theorem dX6_init_0 : decode cX6_init 0 = .ok (.aload_n 0, 1) := by decide +kernel
theorem dX6_init_1 : decode cX6_init 1 = .ok (.invokespecial 1, 3) := by decide +kernel
theorem dX6_init_4 : decode cX6_init 4 = .ok (.aload_n 0, 1) := by decide +kernel
theorem dX6_init_5 : decode cX6_init 5 = .ok (.sipush 1872, 3) := by decide +kernel
theorem dX6_init_8 : decode cX6_init 8 = .ok (.newarray .int, 2) := by decide +kernel
theorem dX6_init_10 : decode cX6_init 10 = .ok (.putfield 7, 3) := by decide +kernel
theorem dX6_init_13 : decode cX6_init 13 = .ok (.aload_n 0, 1) := by decide +kernel
theorem dX6_init_14 : decode cX6_init 14 = .ok (.bipush 90, 2) := by decide +kernel
theorem dX6_init_16 : decode cX6_init 16 = .ok (.newarray .int, 2) := by decide +kernel
theorem dX6_init_18 : decode cX6_init 18 = .ok (.putfield 13, 3) := by decide +kernel
theorem dX6_init_21 : decode cX6_init 21 = .ok (.aload_n 0, 1) := by decide +kernel
theorem dX6_init_22 : decode cX6_init 22 = .ok (.iconst 5, 1) := by decide +kernel
theorem dX6_init_23 : decode cX6_init 23 = .ok (.newarray .int, 2) := by decide +kernel
theorem dX6_init_25 : decode cX6_init 25 = .ok (.putfield 16, 3) := by decide +kernel
theorem dX6_init_28 : decode cX6_init 28 = .ok (.aload_n 0, 1) := by decide +kernel
theorem dX6_init_29 : decode cX6_init 29 = .ok (.bipush 48, 2) := by decide +kernel
theorem dX6_init_31 : decode cX6_init 31 = .ok (.newarray .int, 2) := by decide +kernel
theorem dX6_init_33 : decode cX6_init 33 = .ok (.putfield 19, 3) := by decide +kernel
theorem dX6_init_36 : decode cX6_init 36 = .ok (.iconst 0, 1) := by decide +kernel
theorem dX6_init_37 : decode cX6_init 37 = .ok (.istore_n 1, 1) := by decide +kernel
theorem dX6_init_38 : decode cX6_init 38 = .ok (.iload_n 1, 1) := by decide +kernel
theorem dX6_init_39 : decode cX6_init 39 = .ok (.sipush 240, 3) := by decide +kernel
theorem dX6_init_42 : decode cX6_init 42 = .ok (.if_icmp .ge 19, 3) := by decide +kernel
theorem dX6_init_45 : decode cX6_init 45 = .ok (.aload_n 0, 1) := by decide +kernel
theorem dX6_init_46 : decode cX6_init 46 = .ok (.getfield 7, 3) := by decide +kernel
theorem dX6_init_49 : decode cX6_init 49 = .ok (.iload_n 1, 1) := by decide +kernel
theorem dX6_init_50 : decode cX6_init 50 = .ok (.iconst 1, 1) := by decide +kernel
theorem dX6_init_51 : decode cX6_init 51 = .ok (.iadd, 1) := by decide +kernel
theorem dX6_init_52 : decode cX6_init 52 = .ok (.bipush (-6), 2) := by decide +kernel
theorem dX6_init_54 : decode cX6_init 54 = .ok (.iastore, 1) := by decide +kernel
theorem dX6_init_55 : decode cX6_init 55 = .ok (.iinc 1 3, 3) := by decide +kernel
theorem dX6_init_58 : decode cX6_init 58 = .ok (.goto (-20), 3) := by decide +kernel
theorem dX6_init_61 : decode cX6_init 61 = .ok (.return_, 1) := by decide +kernel
theorem dX6_in_0 : decode cX6_in 0 = .ok (.iload_n 0, 1) := by decide +kernel
theorem dX6_in_1 : decode cX6_in 1 = .ok (.iload_n 1, 1) := by decide +kernel
theorem dX6_in_2 : decode cX6_in 2 = .ok (.if_icmp .lt 12, 3) := by decide +kernel
theorem dX6_in_5 : decode cX6_in 5 = .ok (.iload_n 0, 1) := by decide +kernel
theorem dX6_in_6 : decode cX6_in 6 = .ok (.iload_n 2, 1) := by decide +kernel
theorem dX6_in_7 : decode cX6_in 7 = .ok (.if_icmp .gt 7, 3) := by decide +kernel
theorem dX6_in_10 : decode cX6_in 10 = .ok (.iconst 1, 1) := by decide +kernel
theorem dX6_in_11 : decode cX6_in 11 = .ok (.goto 4, 3) := by decide +kernel
theorem dX6_in_14 : decode cX6_in 14 = .ok (.iconst 0, 1) := by decide +kernel
theorem dX6_in_15 : decode cX6_in 15 = .ok (.ireturn, 1) := by decide +kernel
set_option maxRecDepth 20000 in
theorem ggX6_isWord_X6_in : GoodIn wsX6_isWord wsX6_in := goodIn_r _ [4] (by decide +kernel) (by decide +kernel)
set_option maxRecDepth 20000 in
theorem gX6_isWord_X6_in : GoodIn wsX6_isWord (va_wsS RX6 22 yX6_in wsX6_in) := goodIn_app (goodIn_of _ (by decide +kernel)) ggX6_isWord_X6_in
theorem dX6_isWord_0 : decode cX6_isWord 0 = .ok (.iload_n 0, 1) := by decide +kernel
theorem dX6_isWord_1 : decode cX6_isWord 1 = .ok (.iconst 0, 1) := by decide +kernel
theorem dX6_isWord_2 : decode cX6_isWord 2 = .ok (.bipush 31, 2) := by decide +kernel
theorem dX6_isWord_4 : decode cX6_isWord 4 = .ok (.invokestatic 22, 3) := by decide +kernel
theorem dX6_isWord_7 : decode cX6_isWord 7 = .ok (.ireturn, 1) := by decide +kernel
set_option maxRecDepth 20000 in
theorem ggX6_isPage_X6_in : GoodIn wsX6_isPage wsX6_in := goodIn_r _ [4] (by decide +kernel) (by decide +kernel)
set_option maxRecDepth 20000 in
theorem gX6_isPage_X6_in : GoodIn wsX6_isPage (va_wsS RX6 22 yX6_in wsX6_in) := goodIn_app (goodIn_of _ (by decide +kernel)) ggX6_isPage_X6_in
theorem dX6_isPage_0 : decode cX6_isPage 0 = .ok (.iload_n 0, 1) := by decide +kernel
theorem dX6_isPage_1 : decode cX6_isPage 1 = .ok (.iconst 0, 1) := by decide +kernel
theorem dX6_isPage_2 : decode cX6_isPage 2 = .ok (.bipush 7, 2) := by decide +kernel
theorem dX6_isPage_4 : decode cX6_isPage 4 = .ok (.invokestatic 22, 3) := by decide +kernel
theorem dX6_isPage_7 : decode cX6_isPage 7 = .ok (.ireturn, 1) := by decide +kernel
set_option maxRecDepth 20000 in
theorem ggX6_isOne_X6_in : GoodIn wsX6_isOne wsX6_in := goodIn_r _ [4] (by decide +kernel) (by decide +kernel)
set_option maxRecDepth 20000 in
theorem gX6_isOne_X6_in : GoodIn wsX6_isOne (va_wsS RX6 22 yX6_in wsX6_in) := goodIn_app (goodIn_of _ (by decide +kernel)) ggX6_isOne_X6_in
theorem dX6_isOne_0 : decode cX6_isOne 0 = .ok (.iload_n 0, 1) := by decide +kernel
theorem dX6_isOne_1 : decode cX6_isOne 1 = .ok (.iconst 0, 1) := by decide +kernel
theorem dX6_isOne_2 : decode cX6_isOne 2 = .ok (.iconst 3, 1) := by decide +kernel
theorem dX6_isOne_3 : decode cX6_isOne 3 = .ok (.invokestatic 22, 3) := by decide +kernel
theorem dX6_isOne_6 : decode cX6_isOne 6 = .ok (.ireturn, 1) := by decide +kernel
theorem dX6_wordAt_0 : decode cX6_wordAt 0 = .ok (.iload_n 0, 1) := by decide +kernel
theorem dX6_wordAt_1 : decode cX6_wordAt 1 = .ok (.iconst 3, 1) := by decide +kernel
theorem dX6_wordAt_2 : decode cX6_wordAt 2 = .ok (.iload_n 1, 1) := by decide +kernel
theorem dX6_wordAt_3 : decode cX6_wordAt 3 = .ok (.imul, 1) := by decide +kernel
theorem dX6_wordAt_4 : decode cX6_wordAt 4 = .ok (.iadd, 1) := by decide +kernel
theorem dX6_wordAt_5 : decode cX6_wordAt 5 = .ok (.ireturn, 1) := by decide +kernel
theorem dX6_copyAt_0 : decode cX6_copyAt 0 = .ok (.iload_n 0, 1) := by decide +kernel
theorem dX6_copyAt_1 : decode cX6_copyAt 1 = .ok (.bipush 96, 2) := by decide +kernel
theorem dX6_copyAt_3 : decode cX6_copyAt 3 = .ok (.iadd, 1) := by decide +kernel
theorem dX6_copyAt_4 : decode cX6_copyAt 4 = .ok (.iconst 3, 1) := by decide +kernel
theorem dX6_copyAt_5 : decode cX6_copyAt 5 = .ok (.iload_n 1, 1) := by decide +kernel
theorem dX6_copyAt_6 : decode cX6_copyAt 6 = .ok (.imul, 1) := by decide +kernel
theorem dX6_copyAt_7 : decode cX6_copyAt 7 = .ok (.iadd, 1) := by decide +kernel
theorem dX6_copyAt_8 : decode cX6_copyAt 8 = .ok (.ireturn, 1) := by decide +kernel
theorem dX6_registerAt_0 : decode cX6_registerAt 0 = .ok (.iload_n 0, 1) := by decide +kernel
theorem dX6_registerAt_1 : decode cX6_registerAt 1 = .ok (.sipush 192, 3) := by decide +kernel
theorem dX6_registerAt_4 : decode cX6_registerAt 4 = .ok (.iadd, 1) := by decide +kernel
theorem dX6_registerAt_5 : decode cX6_registerAt 5 = .ok (.iconst 3, 1) := by decide +kernel
theorem dX6_registerAt_6 : decode cX6_registerAt 6 = .ok (.iconst 4, 1) := by decide +kernel
theorem dX6_registerAt_7 : decode cX6_registerAt 7 = .ok (.iload_n 1, 1) := by decide +kernel
theorem dX6_registerAt_8 : decode cX6_registerAt 8 = .ok (.imul, 1) := by decide +kernel
theorem dX6_registerAt_9 : decode cX6_registerAt 9 = .ok (.iload_n 2, 1) := by decide +kernel
theorem dX6_registerAt_10 : decode cX6_registerAt 10 = .ok (.iadd, 1) := by decide +kernel
theorem dX6_registerAt_11 : decode cX6_registerAt 11 = .ok (.imul, 1) := by decide +kernel
theorem dX6_registerAt_12 : decode cX6_registerAt 12 = .ok (.iadd, 1) := by decide +kernel
theorem dX6_registerAt_13 : decode cX6_registerAt 13 = .ok (.ireturn, 1) := by decide +kernel
theorem dX6_isPoisoned_0 : decode cX6_isPoisoned 0 = .ok (.aload_n 0, 1) := by decide +kernel
theorem dX6_isPoisoned_1 : decode cX6_isPoisoned 1 = .ok (.getfield 7, 3) := by decide +kernel
theorem dX6_isPoisoned_4 : decode cX6_isPoisoned 4 = .ok (.iload_n 1, 1) := by decide +kernel
theorem dX6_isPoisoned_5 : decode cX6_isPoisoned 5 = .ok (.iconst 1, 1) := by decide +kernel
theorem dX6_isPoisoned_6 : decode cX6_isPoisoned 6 = .ok (.iadd, 1) := by decide +kernel
theorem dX6_isPoisoned_7 : decode cX6_isPoisoned 7 = .ok (.iaload, 1) := by decide +kernel
theorem dX6_isPoisoned_8 : decode cX6_isPoisoned 8 = .ok (.bipush (-6), 2) := by decide +kernel
theorem dX6_isPoisoned_10 : decode cX6_isPoisoned 10 = .ok (.if_icmp .eq 7, 3) := by decide +kernel
theorem dX6_isPoisoned_13 : decode cX6_isPoisoned 13 = .ok (.iconst 1, 1) := by decide +kernel
theorem dX6_isPoisoned_14 : decode cX6_isPoisoned 14 = .ok (.goto 4, 3) := by decide +kernel
theorem dX6_isPoisoned_17 : decode cX6_isPoisoned 17 = .ok (.iconst 0, 1) := by decide +kernel
theorem dX6_isPoisoned_18 : decode cX6_isPoisoned 18 = .ok (.ireturn, 1) := by decide +kernel
theorem dX6_lays_0 : decode cX6_lays 0 = .ok (.aload_n 0, 1) := by decide +kernel
theorem dX6_lays_1 : decode cX6_lays 1 = .ok (.getfield 7, 3) := by decide +kernel
theorem dX6_lays_4 : decode cX6_lays 4 = .ok (.iload_n 1, 1) := by decide +kernel
theorem dX6_lays_5 : decode cX6_lays 5 = .ok (.iload_n 2, 1) := by decide +kernel
theorem dX6_lays_6 : decode cX6_lays 6 = .ok (.iastore, 1) := by decide +kernel
theorem dX6_lays_7 : decode cX6_lays 7 = .ok (.aload_n 0, 1) := by decide +kernel
theorem dX6_lays_8 : decode cX6_lays 8 = .ok (.getfield 7, 3) := by decide +kernel
theorem dX6_lays_11 : decode cX6_lays 11 = .ok (.iload_n 1, 1) := by decide +kernel
theorem dX6_lays_12 : decode cX6_lays 12 = .ok (.iconst 1, 1) := by decide +kernel
theorem dX6_lays_13 : decode cX6_lays 13 = .ok (.iadd, 1) := by decide +kernel
theorem dX6_lays_14 : decode cX6_lays 14 = .ok (.iload_n 3, 1) := by decide +kernel
theorem dX6_lays_15 : decode cX6_lays 15 = .ok (.iastore, 1) := by decide +kernel
theorem dX6_lays_16 : decode cX6_lays 16 = .ok (.aload_n 0, 1) := by decide +kernel
theorem dX6_lays_17 : decode cX6_lays 17 = .ok (.getfield 7, 3) := by decide +kernel
theorem dX6_lays_20 : decode cX6_lays 20 = .ok (.iload_n 1, 1) := by decide +kernel
theorem dX6_lays_21 : decode cX6_lays 21 = .ok (.iconst 2, 1) := by decide +kernel
theorem dX6_lays_22 : decode cX6_lays 22 = .ok (.iadd, 1) := by decide +kernel
theorem dX6_lays_23 : decode cX6_lays 23 = .ok (.iload_n 3, 1) := by decide +kernel
theorem dX6_lays_24 : decode cX6_lays 24 = .ok (.bipush (-6), 2) := by decide +kernel
theorem dX6_lays_26 : decode cX6_lays 26 = .ok (.if_icmp .ne 7, 3) := by decide +kernel
theorem dX6_lays_29 : decode cX6_lays 29 = .ok (.iconst 0, 1) := by decide +kernel
theorem dX6_lays_30 : decode cX6_lays 30 = .ok (.goto 5, 3) := by decide +kernel
theorem dX6_lays_33 : decode cX6_lays 33 = .ok (.iload 4, 2) := by decide +kernel
theorem dX6_lays_35 : decode cX6_lays 35 = .ok (.iastore, 1) := by decide +kernel
theorem dX6_lays_36 : decode cX6_lays 36 = .ok (.return_, 1) := by decide +kernel
theorem dX6_more_0 : decode cX6_more 0 = .ok (.iload_n 0, 1) := by decide +kernel
theorem dX6_more_1 : decode cX6_more 1 = .ok (.bipush 99, 2) := by decide +kernel
theorem dX6_more_3 : decode cX6_more 3 = .ok (.if_icmp .ge 9, 3) := by decide +kernel
theorem dX6_more_6 : decode cX6_more 6 = .ok (.iload_n 0, 1) := by decide +kernel
theorem dX6_more_7 : decode cX6_more 7 = .ok (.iconst 1, 1) := by decide +kernel
theorem dX6_more_8 : decode cX6_more 8 = .ok (.iadd, 1) := by decide +kernel
theorem dX6_more_9 : decode cX6_more 9 = .ok (.goto 5, 3) := by decide +kernel
theorem dX6_more_12 : decode cX6_more 12 = .ok (.bipush 99, 2) := by decide +kernel
theorem dX6_more_14 : decode cX6_more 14 = .ok (.ireturn, 1) := by decide +kernel
set_option maxRecDepth 20000 in
theorem ggX6_gets_X6_more : GoodIn wsX6_gets wsX6_more := goodIn_r _ [5] (by decide +kernel) (by decide +kernel)
set_option maxRecDepth 20000 in
theorem gX6_gets_X6_more : GoodIn wsX6_gets (va_wsS RX6 26 yX6_more wsX6_more) := goodIn_app (goodIn_of _ (by decide +kernel)) ggX6_gets_X6_more
set_option maxRecDepth 20000 in
theorem ggX6_gets_X6_lays : GoodIn wsX6_gets wsX6_lays := goodIn_r _ [9, 1, 10, 11, 12, 13, 14, 15, 16, 17] (by decide +kernel) (by decide +kernel)
set_option maxRecDepth 20000 in
theorem gX6_gets_X6_lays : GoodIn wsX6_gets (wsV RX6 30 RX6 yX6_lays wsX6_lays) := goodIn_app (goodIn_of _ (by decide +kernel)) ggX6_gets_X6_lays
theorem dX6_gets_0 : decode cX6_gets 0 = .ok (.aload_n 0, 1) := by decide +kernel
theorem dX6_gets_1 : decode cX6_gets 1 = .ok (.iload_n 1, 1) := by decide +kernel
theorem dX6_gets_2 : decode cX6_gets 2 = .ok (.iload_n 2, 1) := by decide +kernel
theorem dX6_gets_3 : decode cX6_gets 3 = .ok (.aload_n 0, 1) := by decide +kernel
theorem dX6_gets_4 : decode cX6_gets 4 = .ok (.getfield 7, 3) := by decide +kernel
theorem dX6_gets_7 : decode cX6_gets 7 = .ok (.iload_n 3, 1) := by decide +kernel
theorem dX6_gets_8 : decode cX6_gets 8 = .ok (.iconst 1, 1) := by decide +kernel
theorem dX6_gets_9 : decode cX6_gets 9 = .ok (.iadd, 1) := by decide +kernel
theorem dX6_gets_10 : decode cX6_gets 10 = .ok (.iaload, 1) := by decide +kernel
theorem dX6_gets_11 : decode cX6_gets 11 = .ok (.aload_n 0, 1) := by decide +kernel
theorem dX6_gets_12 : decode cX6_gets 12 = .ok (.getfield 7, 3) := by decide +kernel
theorem dX6_gets_15 : decode cX6_gets 15 = .ok (.iload_n 3, 1) := by decide +kernel
theorem dX6_gets_16 : decode cX6_gets 16 = .ok (.iconst 2, 1) := by decide +kernel
theorem dX6_gets_17 : decode cX6_gets 17 = .ok (.iadd, 1) := by decide +kernel
theorem dX6_gets_18 : decode cX6_gets 18 = .ok (.iaload, 1) := by decide +kernel
theorem dX6_gets_19 : decode cX6_gets 19 = .ok (.invokestatic 26, 3) := by decide +kernel
theorem dX6_gets_22 : decode cX6_gets 22 = .ok (.invokevirtual 30, 3) := by decide +kernel
theorem dX6_gets_25 : decode cX6_gets 25 = .ok (.return_, 1) := by decide +kernel
theorem dX6_isMirrored_0 : decode cX6_isMirrored 0 = .ok (.aload_n 0, 1) := by decide +kernel
theorem dX6_isMirrored_1 : decode cX6_isMirrored 1 = .ok (.getfield 7, 3) := by decide +kernel
theorem dX6_isMirrored_4 : decode cX6_isMirrored 4 = .ok (.iload_n 1, 1) := by decide +kernel
theorem dX6_isMirrored_5 : decode cX6_isMirrored 5 = .ok (.sipush 240, 3) := by decide +kernel
theorem dX6_isMirrored_8 : decode cX6_isMirrored 8 = .ok (.iadd, 1) := by decide +kernel
theorem dX6_isMirrored_9 : decode cX6_isMirrored 9 = .ok (.iload_n 2, 1) := by decide +kernel
theorem dX6_isMirrored_10 : decode cX6_isMirrored 10 = .ok (.iconst 4, 1) := by decide +kernel
theorem dX6_isMirrored_11 : decode cX6_isMirrored 11 = .ok (.idiv, 1) := by decide +kernel
theorem dX6_isMirrored_12 : decode cX6_isMirrored 12 = .ok (.iadd, 1) := by decide +kernel
theorem dX6_isMirrored_13 : decode cX6_isMirrored 13 = .ok (.iaload, 1) := by decide +kernel
theorem dX6_isMirrored_14 : decode cX6_isMirrored 14 = .ok (.iconst 1, 1) := by decide +kernel
theorem dX6_isMirrored_15 : decode cX6_isMirrored 15 = .ok (.if_icmp .ne 7, 3) := by decide +kernel
theorem dX6_isMirrored_18 : decode cX6_isMirrored 18 = .ok (.iconst 1, 1) := by decide +kernel
theorem dX6_isMirrored_19 : decode cX6_isMirrored 19 = .ok (.goto 4, 3) := by decide +kernel
theorem dX6_isMirrored_22 : decode cX6_isMirrored 22 = .ok (.iconst 0, 1) := by decide +kernel
theorem dX6_isMirrored_23 : decode cX6_isMirrored 23 = .ok (.ireturn, 1) := by decide +kernel
set_option maxRecDepth 20000 in
theorem ggX6_canHeal_X6_wordAt : GoodIn wsX6_canHeal wsX6_wordAt := goodIn_r _ [4] (by decide +kernel) (by decide +kernel)
set_option maxRecDepth 20000 in
theorem gX6_canHeal_X6_wordAt : GoodIn wsX6_canHeal (va_wsS RX6 34 yX6_wordAt wsX6_wordAt) := goodIn_app (goodIn_of _ (by decide +kernel)) ggX6_canHeal_X6_wordAt
set_option maxRecDepth 20000 in
theorem ggX6_canHeal_X6_isPoisoned : GoodIn wsX6_canHeal wsX6_isPoisoned := goodIn_r _ [8, 9, 17, 18, 19, 20, 21, 22, 23, 24] (by decide +kernel) (by decide +kernel)
set_option maxRecDepth 20000 in
theorem gX6_canHeal_X6_isPoisoned : GoodIn wsX6_canHeal (wsV RX6 38 RX6 yX6_isPoisoned wsX6_isPoisoned) := goodIn_app (goodIn_of _ (by decide +kernel)) ggX6_canHeal_X6_isPoisoned
set_option maxRecDepth 20000 in
theorem ggX6_canHeal_X6_isMirrored : GoodIn wsX6_canHeal wsX6_isMirrored := goodIn_r _ [13, 9, 17, 18, 19, 20, 21, 22, 23, 24] (by decide +kernel) (by decide +kernel)
set_option maxRecDepth 20000 in
theorem gX6_canHeal_X6_isMirrored : GoodIn wsX6_canHeal (wsV RX6 42 RX6 yX6_isMirrored wsX6_isMirrored) := goodIn_app (goodIn_of _ (by decide +kernel)) ggX6_canHeal_X6_isMirrored
set_option maxRecDepth 20000 in
theorem ggX6_canHeal_X6_copyAt : GoodIn wsX6_canHeal wsX6_copyAt := goodIn_r _ [16] (by decide +kernel) (by decide +kernel)
set_option maxRecDepth 20000 in
theorem gX6_canHeal_X6_copyAt : GoodIn wsX6_canHeal (va_wsS RX6 46 yX6_copyAt wsX6_copyAt) := goodIn_app (goodIn_of _ (by decide +kernel)) ggX6_canHeal_X6_copyAt
theorem dX6_canHeal_0 : decode cX6_canHeal 0 = .ok (.aload_n 0, 1) := by decide +kernel
theorem dX6_canHeal_1 : decode cX6_canHeal 1 = .ok (.iload_n 1, 1) := by decide +kernel
theorem dX6_canHeal_2 : decode cX6_canHeal 2 = .ok (.iload_n 2, 1) := by decide +kernel
theorem dX6_canHeal_3 : decode cX6_canHeal 3 = .ok (.invokestatic 34, 3) := by decide +kernel
theorem dX6_canHeal_6 : decode cX6_canHeal 6 = .ok (.invokevirtual 38, 3) := by decide +kernel
theorem dX6_canHeal_9 : decode cX6_canHeal 9 = .ok (.ifCond .eq 28, 3) := by decide +kernel
theorem dX6_canHeal_12 : decode cX6_canHeal 12 = .ok (.aload_n 0, 1) := by decide +kernel
theorem dX6_canHeal_13 : decode cX6_canHeal 13 = .ok (.iload_n 1, 1) := by decide +kernel
theorem dX6_canHeal_14 : decode cX6_canHeal 14 = .ok (.iload_n 2, 1) := by decide +kernel
theorem dX6_canHeal_15 : decode cX6_canHeal 15 = .ok (.invokevirtual 42, 3) := by decide +kernel
theorem dX6_canHeal_18 : decode cX6_canHeal 18 = .ok (.ifCond .eq 19, 3) := by decide +kernel
theorem dX6_canHeal_21 : decode cX6_canHeal 21 = .ok (.aload_n 0, 1) := by decide +kernel
theorem dX6_canHeal_22 : decode cX6_canHeal 22 = .ok (.iload_n 1, 1) := by decide +kernel
theorem dX6_canHeal_23 : decode cX6_canHeal 23 = .ok (.iload_n 2, 1) := by decide +kernel
theorem dX6_canHeal_24 : decode cX6_canHeal 24 = .ok (.invokestatic 46, 3) := by decide +kernel
theorem dX6_canHeal_27 : decode cX6_canHeal 27 = .ok (.invokevirtual 38, 3) := by decide +kernel
theorem dX6_canHeal_30 : decode cX6_canHeal 30 = .ok (.ifCond .ne 7, 3) := by decide +kernel
theorem dX6_canHeal_33 : decode cX6_canHeal 33 = .ok (.iconst 1, 1) := by decide +kernel
theorem dX6_canHeal_34 : decode cX6_canHeal 34 = .ok (.goto 4, 3) := by decide +kernel
theorem dX6_canHeal_37 : decode cX6_canHeal 37 = .ok (.iconst 0, 1) := by decide +kernel
theorem dX6_canHeal_38 : decode cX6_canHeal 38 = .ok (.ireturn, 1) := by decide +kernel
set_option maxRecDepth 20000 in
theorem ggX6_fetches_X6_canHeal : GoodIn wsX6_fetches wsX6_canHeal := goodIn_r _ [6, 7, 8, 5, 9, 10, 11, 12, 13, 1, 14, 15, 16, 17, 18, 19, 20, 25, 26, 27, 28, 29, 30, 31, 32] (by decide +kernel) (by decide +kernel)
set_option maxRecDepth 20000 in
theorem gX6_fetches_X6_canHeal : GoodIn wsX6_fetches (wsV RX6 49 RX6 yX6_canHeal wsX6_canHeal) := goodIn_app (goodIn_of _ (by decide +kernel)) ggX6_fetches_X6_canHeal
set_option maxRecDepth 20000 in
theorem ggX6_fetches_X6_wordAt : GoodIn wsX6_fetches wsX6_wordAt := goodIn_r _ [9] (by decide +kernel) (by decide +kernel)
set_option maxRecDepth 20000 in
theorem gX6_fetches_X6_wordAt : GoodIn wsX6_fetches (va_wsS RX6 34 yX6_wordAt wsX6_wordAt) := goodIn_app (goodIn_of _ (by decide +kernel)) ggX6_fetches_X6_wordAt
set_option maxRecDepth 20000 in
theorem ggX6_fetches_X6_copyAt : GoodIn wsX6_fetches wsX6_copyAt := goodIn_r _ [20] (by decide +kernel) (by decide +kernel)
set_option maxRecDepth 20000 in
theorem gX6_fetches_X6_copyAt : GoodIn wsX6_fetches (va_wsS RX6 46 yX6_copyAt wsX6_copyAt) := goodIn_app (goodIn_of _ (by decide +kernel)) ggX6_fetches_X6_copyAt
set_option maxRecDepth 20000 in
theorem ggX6_fetches_X6_lays : GoodIn wsX6_fetches wsX6_lays := goodIn_r _ [24, 1, 25, 26, 27, 28, 29, 30, 31, 32] (by decide +kernel) (by decide +kernel)
set_option maxRecDepth 20000 in
theorem gX6_fetches_X6_lays : GoodIn wsX6_fetches (wsV RX6 30 RX6 yX6_lays wsX6_lays) := goodIn_app (goodIn_of _ (by decide +kernel)) ggX6_fetches_X6_lays
theorem dX6_fetches_0 : decode cX6_fetches 0 = .ok (.aload_n 0, 1) := by decide +kernel
theorem dX6_fetches_1 : decode cX6_fetches 1 = .ok (.iload_n 1, 1) := by decide +kernel
theorem dX6_fetches_2 : decode cX6_fetches 2 = .ok (.iload_n 2, 1) := by decide +kernel
theorem dX6_fetches_3 : decode cX6_fetches 3 = .ok (.invokevirtual 49, 3) := by decide +kernel
theorem dX6_fetches_6 : decode cX6_fetches 6 = .ok (.istore_n 3, 1) := by decide +kernel
theorem dX6_fetches_7 : decode cX6_fetches 7 = .ok (.iload_n 3, 1) := by decide +kernel
theorem dX6_fetches_8 : decode cX6_fetches 8 = .ok (.ifCond .eq 39, 3) := by decide +kernel
theorem dX6_fetches_11 : decode cX6_fetches 11 = .ok (.aload_n 0, 1) := by decide +kernel
theorem dX6_fetches_12 : decode cX6_fetches 12 = .ok (.iload_n 1, 1) := by decide +kernel
theorem dX6_fetches_13 : decode cX6_fetches 13 = .ok (.iload_n 2, 1) := by decide +kernel
theorem dX6_fetches_14 : decode cX6_fetches 14 = .ok (.invokestatic 34, 3) := by decide +kernel
theorem dX6_fetches_17 : decode cX6_fetches 17 = .ok (.aload_n 0, 1) := by decide +kernel
theorem dX6_fetches_18 : decode cX6_fetches 18 = .ok (.getfield 7, 3) := by decide +kernel
theorem dX6_fetches_21 : decode cX6_fetches 21 = .ok (.iload_n 1, 1) := by decide +kernel
theorem dX6_fetches_22 : decode cX6_fetches 22 = .ok (.iload_n 2, 1) := by decide +kernel
theorem dX6_fetches_23 : decode cX6_fetches 23 = .ok (.invokestatic 46, 3) := by decide +kernel
theorem dX6_fetches_26 : decode cX6_fetches 26 = .ok (.iaload, 1) := by decide +kernel
theorem dX6_fetches_27 : decode cX6_fetches 27 = .ok (.bipush (-6), 2) := by decide +kernel
theorem dX6_fetches_29 : decode cX6_fetches 29 = .ok (.iconst 0, 1) := by decide +kernel
theorem dX6_fetches_30 : decode cX6_fetches 30 = .ok (.invokevirtual 30, 3) := by decide +kernel
theorem dX6_fetches_33 : decode cX6_fetches 33 = .ok (.aload_n 0, 1) := by decide +kernel
theorem dX6_fetches_34 : decode cX6_fetches 34 = .ok (.getfield 7, 3) := by decide +kernel
theorem dX6_fetches_37 : decode cX6_fetches 37 = .ok (.iload_n 1, 1) := by decide +kernel
theorem dX6_fetches_38 : decode cX6_fetches 38 = .ok (.sipush 311, 3) := by decide +kernel
theorem dX6_fetches_41 : decode cX6_fetches 41 = .ok (.iadd, 1) := by decide +kernel
theorem dX6_fetches_42 : decode cX6_fetches 42 = .ok (.dup2, 1) := by decide +kernel
theorem dX6_fetches_43 : decode cX6_fetches 43 = .ok (.iaload, 1) := by decide +kernel
theorem dX6_fetches_44 : decode cX6_fetches 44 = .ok (.iconst 1, 1) := by decide +kernel
theorem dX6_fetches_45 : decode cX6_fetches 45 = .ok (.iadd, 1) := by decide +kernel
theorem dX6_fetches_46 : decode cX6_fetches 46 = .ok (.iastore, 1) := by decide +kernel
theorem dX6_fetches_47 : decode cX6_fetches 47 = .ok (.iload_n 3, 1) := by decide +kernel
theorem dX6_fetches_48 : decode cX6_fetches 48 = .ok (.ifCond .eq 7, 3) := by decide +kernel
theorem dX6_fetches_51 : decode cX6_fetches 51 = .ok (.iconst 1, 1) := by decide +kernel
theorem dX6_fetches_52 : decode cX6_fetches 52 = .ok (.goto 4, 3) := by decide +kernel
theorem dX6_fetches_55 : decode cX6_fetches 55 = .ok (.iconst 0, 1) := by decide +kernel
theorem dX6_fetches_56 : decode cX6_fetches 56 = .ok (.ireturn, 1) := by decide +kernel
set_option maxRecDepth 20000 in
theorem ggX6_written_X6_wordAt : GoodIn wsX6_written wsX6_wordAt := goodIn_r _ [5] (by decide +kernel) (by decide +kernel)
set_option maxRecDepth 20000 in
theorem gX6_written_X6_wordAt : GoodIn wsX6_written (va_wsS RX6 34 yX6_wordAt wsX6_wordAt) := goodIn_app (goodIn_of _ (by decide +kernel)) ggX6_written_X6_wordAt
set_option maxRecDepth 20000 in
theorem ggX6_written_X6_isMirrored : GoodIn wsX6_written wsX6_isMirrored := goodIn_r _ [9, 1, 17, 18, 19, 20, 21, 22, 23, 24] (by decide +kernel) (by decide +kernel)
set_option maxRecDepth 20000 in
theorem gX6_written_X6_isMirrored : GoodIn wsX6_written (wsV RX6 42 RX6 yX6_isMirrored wsX6_isMirrored) := goodIn_app (goodIn_of _ (by decide +kernel)) ggX6_written_X6_isMirrored
set_option maxRecDepth 20000 in
theorem ggX6_written_X6_copyAt : GoodIn wsX6_written wsX6_copyAt := goodIn_r _ [12] (by decide +kernel) (by decide +kernel)
set_option maxRecDepth 20000 in
theorem gX6_written_X6_copyAt : GoodIn wsX6_written (va_wsS RX6 46 yX6_copyAt wsX6_copyAt) := goodIn_app (goodIn_of _ (by decide +kernel)) ggX6_written_X6_copyAt
set_option maxRecDepth 20000 in
theorem ggX6_written_X6_lays : GoodIn wsX6_written wsX6_lays := goodIn_r _ [16, 1, 17, 18, 19, 20, 21, 22, 23, 24] (by decide +kernel) (by decide +kernel)
set_option maxRecDepth 20000 in
theorem gX6_written_X6_lays : GoodIn wsX6_written (wsV RX6 30 RX6 yX6_lays wsX6_lays) := goodIn_app (goodIn_of _ (by decide +kernel)) ggX6_written_X6_lays
theorem dX6_written_0 : decode cX6_written 0 = .ok (.iload_n 1, 1) := by decide +kernel
theorem dX6_written_1 : decode cX6_written 1 = .ok (.iload_n 2, 1) := by decide +kernel
theorem dX6_written_2 : decode cX6_written 2 = .ok (.invokestatic 34, 3) := by decide +kernel
theorem dX6_written_5 : decode cX6_written 5 = .ok (.istore_n 3, 1) := by decide +kernel
theorem dX6_written_6 : decode cX6_written 6 = .ok (.aload_n 0, 1) := by decide +kernel
theorem dX6_written_7 : decode cX6_written 7 = .ok (.iload_n 1, 1) := by decide +kernel
theorem dX6_written_8 : decode cX6_written 8 = .ok (.iload_n 2, 1) := by decide +kernel
theorem dX6_written_9 : decode cX6_written 9 = .ok (.invokevirtual 42, 3) := by decide +kernel
theorem dX6_written_12 : decode cX6_written 12 = .ok (.ifCond .eq 34, 3) := by decide +kernel
theorem dX6_written_15 : decode cX6_written 15 = .ok (.aload_n 0, 1) := by decide +kernel
theorem dX6_written_16 : decode cX6_written 16 = .ok (.iload_n 1, 1) := by decide +kernel
theorem dX6_written_17 : decode cX6_written 17 = .ok (.iload_n 2, 1) := by decide +kernel
theorem dX6_written_18 : decode cX6_written 18 = .ok (.invokestatic 46, 3) := by decide +kernel
theorem dX6_written_21 : decode cX6_written 21 = .ok (.aload_n 0, 1) := by decide +kernel
theorem dX6_written_22 : decode cX6_written 22 = .ok (.getfield 7, 3) := by decide +kernel
theorem dX6_written_25 : decode cX6_written 25 = .ok (.iload_n 3, 1) := by decide +kernel
theorem dX6_written_26 : decode cX6_written 26 = .ok (.iaload, 1) := by decide +kernel
theorem dX6_written_27 : decode cX6_written 27 = .ok (.aload_n 0, 1) := by decide +kernel
theorem dX6_written_28 : decode cX6_written 28 = .ok (.getfield 7, 3) := by decide +kernel
theorem dX6_written_31 : decode cX6_written 31 = .ok (.iload_n 3, 1) := by decide +kernel
theorem dX6_written_32 : decode cX6_written 32 = .ok (.iconst 1, 1) := by decide +kernel
theorem dX6_written_33 : decode cX6_written 33 = .ok (.iadd, 1) := by decide +kernel
theorem dX6_written_34 : decode cX6_written 34 = .ok (.iaload, 1) := by decide +kernel
theorem dX6_written_35 : decode cX6_written 35 = .ok (.aload_n 0, 1) := by decide +kernel
theorem dX6_written_36 : decode cX6_written 36 = .ok (.getfield 7, 3) := by decide +kernel
theorem dX6_written_39 : decode cX6_written 39 = .ok (.iload_n 3, 1) := by decide +kernel
theorem dX6_written_40 : decode cX6_written 40 = .ok (.iconst 2, 1) := by decide +kernel
theorem dX6_written_41 : decode cX6_written 41 = .ok (.iadd, 1) := by decide +kernel
theorem dX6_written_42 : decode cX6_written 42 = .ok (.iaload, 1) := by decide +kernel
theorem dX6_written_43 : decode cX6_written 43 = .ok (.invokevirtual 30, 3) := by decide +kernel
theorem dX6_written_46 : decode cX6_written 46 = .ok (.return_, 1) := by decide +kernel
set_option maxRecDepth 20000 in
theorem ggX6_isFaultDone_X6_registerAt : GoodIn wsX6_isFaultDone wsX6_registerAt := goodIn_r _ [5] (by decide +kernel) (by decide +kernel)
set_option maxRecDepth 20000 in
theorem gX6_isFaultDone_X6_registerAt : GoodIn wsX6_isFaultDone (va_wsS RX6 52 yX6_registerAt wsX6_registerAt) := goodIn_app (goodIn_of _ (by decide +kernel)) ggX6_isFaultDone_X6_registerAt
theorem dX6_isFaultDone_0 : decode cX6_isFaultDone 0 = .ok (.aload_n 0, 1) := by decide +kernel
theorem dX6_isFaultDone_1 : decode cX6_isFaultDone 1 = .ok (.getfield 7, 3) := by decide +kernel
theorem dX6_isFaultDone_4 : decode cX6_isFaultDone 4 = .ok (.iload_n 1, 1) := by decide +kernel
theorem dX6_isFaultDone_5 : decode cX6_isFaultDone 5 = .ok (.sipush 248, 3) := by decide +kernel
theorem dX6_isFaultDone_8 : decode cX6_isFaultDone 8 = .ok (.iadd, 1) := by decide +kernel
theorem dX6_isFaultDone_9 : decode cX6_isFaultDone 9 = .ok (.iload_n 2, 1) := by decide +kernel
theorem dX6_isFaultDone_10 : decode cX6_isFaultDone 10 = .ok (.iadd, 1) := by decide +kernel
theorem dX6_isFaultDone_11 : decode cX6_isFaultDone 11 = .ok (.iaload, 1) := by decide +kernel
theorem dX6_isFaultDone_12 : decode cX6_isFaultDone 12 = .ok (.istore 4, 2) := by decide +kernel
theorem dX6_isFaultDone_14 : decode cX6_isFaultDone 14 = .ok (.bipush 31, 2) := by decide +kernel
theorem dX6_isFaultDone_16 : decode cX6_isFaultDone 16 = .ok (.istore 5, 2) := by decide +kernel
theorem dX6_isFaultDone_18 : decode cX6_isFaultDone 18 = .ok (.iload 5, 2) := by decide +kernel
theorem dX6_isFaultDone_20 : decode cX6_isFaultDone 20 = .ok (.iconst 3, 1) := by decide +kernel
theorem dX6_isFaultDone_21 : decode cX6_isFaultDone 21 = .ok (.if_icmp .le 37, 3) := by decide +kernel
theorem dX6_isFaultDone_24 : decode cX6_isFaultDone 24 = .ok (.aload_n 0, 1) := by decide +kernel
theorem dX6_isFaultDone_25 : decode cX6_isFaultDone 25 = .ok (.getfield 7, 3) := by decide +kernel
theorem dX6_isFaultDone_28 : decode cX6_isFaultDone 28 = .ok (.iload_n 1, 1) := by decide +kernel
theorem dX6_isFaultDone_29 : decode cX6_isFaultDone 29 = .ok (.sipush 278, 3) := by decide +kernel
theorem dX6_isFaultDone_32 : decode cX6_isFaultDone 32 = .ok (.iadd, 1) := by decide +kernel
theorem dX6_isFaultDone_33 : decode cX6_isFaultDone 33 = .ok (.iload 5, 2) := by decide +kernel
theorem dX6_isFaultDone_35 : decode cX6_isFaultDone 35 = .ok (.iadd, 1) := by decide +kernel
theorem dX6_isFaultDone_36 : decode cX6_isFaultDone 36 = .ok (.aload_n 0, 1) := by decide +kernel
theorem dX6_isFaultDone_37 : decode cX6_isFaultDone 37 = .ok (.getfield 7, 3) := by decide +kernel
theorem dX6_isFaultDone_40 : decode cX6_isFaultDone 40 = .ok (.iload_n 1, 1) := by decide +kernel
theorem dX6_isFaultDone_41 : decode cX6_isFaultDone 41 = .ok (.sipush 278, 3) := by decide +kernel
theorem dX6_isFaultDone_44 : decode cX6_isFaultDone 44 = .ok (.iadd, 1) := by decide +kernel
theorem dX6_isFaultDone_45 : decode cX6_isFaultDone 45 = .ok (.iload 5, 2) := by decide +kernel
theorem dX6_isFaultDone_47 : decode cX6_isFaultDone 47 = .ok (.iadd, 1) := by decide +kernel
theorem dX6_isFaultDone_48 : decode cX6_isFaultDone 48 = .ok (.iconst 4, 1) := by decide +kernel
theorem dX6_isFaultDone_49 : decode cX6_isFaultDone 49 = .ok (.isub, 1) := by decide +kernel
theorem dX6_isFaultDone_50 : decode cX6_isFaultDone 50 = .ok (.iaload, 1) := by decide +kernel
theorem dX6_isFaultDone_51 : decode cX6_isFaultDone 51 = .ok (.iastore, 1) := by decide +kernel
theorem dX6_isFaultDone_52 : decode cX6_isFaultDone 52 = .ok (.iinc 5 (-1), 3) := by decide +kernel
theorem dX6_isFaultDone_55 : decode cX6_isFaultDone 55 = .ok (.goto (-37), 3) := by decide +kernel
theorem dX6_isFaultDone_58 : decode cX6_isFaultDone 58 = .ok (.aload_n 0, 1) := by decide +kernel
theorem dX6_isFaultDone_59 : decode cX6_isFaultDone 59 = .ok (.getfield 7, 3) := by decide +kernel
theorem dX6_isFaultDone_62 : decode cX6_isFaultDone 62 = .ok (.iload_n 1, 1) := by decide +kernel
theorem dX6_isFaultDone_63 : decode cX6_isFaultDone 63 = .ok (.sipush 278, 3) := by decide +kernel
theorem dX6_isFaultDone_66 : decode cX6_isFaultDone 66 = .ok (.iadd, 1) := by decide +kernel
theorem dX6_isFaultDone_67 : decode cX6_isFaultDone 67 = .ok (.iload_n 2, 1) := by decide +kernel
theorem dX6_isFaultDone_68 : decode cX6_isFaultDone 68 = .ok (.iastore, 1) := by decide +kernel
theorem dX6_isFaultDone_69 : decode cX6_isFaultDone 69 = .ok (.aload_n 0, 1) := by decide +kernel
theorem dX6_isFaultDone_70 : decode cX6_isFaultDone 70 = .ok (.getfield 7, 3) := by decide +kernel
theorem dX6_isFaultDone_73 : decode cX6_isFaultDone 73 = .ok (.iload_n 1, 1) := by decide +kernel
theorem dX6_isFaultDone_74 : decode cX6_isFaultDone 74 = .ok (.sipush 278, 3) := by decide +kernel
theorem dX6_isFaultDone_77 : decode cX6_isFaultDone 77 = .ok (.iadd, 1) := by decide +kernel
theorem dX6_isFaultDone_78 : decode cX6_isFaultDone 78 = .ok (.iconst 1, 1) := by decide +kernel
theorem dX6_isFaultDone_79 : decode cX6_isFaultDone 79 = .ok (.iadd, 1) := by decide +kernel
theorem dX6_isFaultDone_80 : decode cX6_isFaultDone 80 = .ok (.iload_n 3, 1) := by decide +kernel
theorem dX6_isFaultDone_81 : decode cX6_isFaultDone 81 = .ok (.iastore, 1) := by decide +kernel
theorem dX6_isFaultDone_82 : decode cX6_isFaultDone 82 = .ok (.aload_n 0, 1) := by decide +kernel
theorem dX6_isFaultDone_83 : decode cX6_isFaultDone 83 = .ok (.getfield 7, 3) := by decide +kernel
theorem dX6_isFaultDone_86 : decode cX6_isFaultDone 86 = .ok (.iload_n 1, 1) := by decide +kernel
theorem dX6_isFaultDone_87 : decode cX6_isFaultDone 87 = .ok (.sipush 278, 3) := by decide +kernel
theorem dX6_isFaultDone_90 : decode cX6_isFaultDone 90 = .ok (.iadd, 1) := by decide +kernel
theorem dX6_isFaultDone_91 : decode cX6_isFaultDone 91 = .ok (.iconst 2, 1) := by decide +kernel
theorem dX6_isFaultDone_92 : decode cX6_isFaultDone 92 = .ok (.iadd, 1) := by decide +kernel
theorem dX6_isFaultDone_93 : decode cX6_isFaultDone 93 = .ok (.aload_n 0, 1) := by decide +kernel
theorem dX6_isFaultDone_94 : decode cX6_isFaultDone 94 = .ok (.getfield 7, 3) := by decide +kernel
theorem dX6_isFaultDone_97 : decode cX6_isFaultDone 97 = .ok (.iload_n 1, 1) := by decide +kernel
theorem dX6_isFaultDone_98 : decode cX6_isFaultDone 98 = .ok (.iload_n 2, 1) := by decide +kernel
theorem dX6_isFaultDone_99 : decode cX6_isFaultDone 99 = .ok (.iload_n 3, 1) := by decide +kernel
theorem dX6_isFaultDone_100 : decode cX6_isFaultDone 100 = .ok (.invokestatic 52, 3) := by decide +kernel
theorem dX6_isFaultDone_103 : decode cX6_isFaultDone 103 = .ok (.iconst 1, 1) := by decide +kernel
theorem dX6_isFaultDone_104 : decode cX6_isFaultDone 104 = .ok (.iadd, 1) := by decide +kernel
theorem dX6_isFaultDone_105 : decode cX6_isFaultDone 105 = .ok (.iaload, 1) := by decide +kernel
theorem dX6_isFaultDone_106 : decode cX6_isFaultDone 106 = .ok (.iastore, 1) := by decide +kernel
theorem dX6_isFaultDone_107 : decode cX6_isFaultDone 107 = .ok (.aload_n 0, 1) := by decide +kernel
theorem dX6_isFaultDone_108 : decode cX6_isFaultDone 108 = .ok (.getfield 7, 3) := by decide +kernel
theorem dX6_isFaultDone_111 : decode cX6_isFaultDone 111 = .ok (.iload_n 1, 1) := by decide +kernel
theorem dX6_isFaultDone_112 : decode cX6_isFaultDone 112 = .ok (.sipush 278, 3) := by decide +kernel
theorem dX6_isFaultDone_115 : decode cX6_isFaultDone 115 = .ok (.iadd, 1) := by decide +kernel
theorem dX6_isFaultDone_116 : decode cX6_isFaultDone 116 = .ok (.iconst 3, 1) := by decide +kernel
theorem dX6_isFaultDone_117 : decode cX6_isFaultDone 117 = .ok (.iadd, 1) := by decide +kernel
theorem dX6_isFaultDone_118 : decode cX6_isFaultDone 118 = .ok (.iload 4, 2) := by decide +kernel
theorem dX6_isFaultDone_120 : decode cX6_isFaultDone 120 = .ok (.iastore, 1) := by decide +kernel
theorem dX6_isFaultDone_121 : decode cX6_isFaultDone 121 = .ok (.aload_n 0, 1) := by decide +kernel
theorem dX6_isFaultDone_122 : decode cX6_isFaultDone 122 = .ok (.getfield 7, 3) := by decide +kernel
theorem dX6_isFaultDone_125 : decode cX6_isFaultDone 125 = .ok (.iload_n 1, 1) := by decide +kernel
theorem dX6_isFaultDone_126 : decode cX6_isFaultDone 126 = .ok (.sipush 277, 3) := by decide +kernel
theorem dX6_isFaultDone_129 : decode cX6_isFaultDone 129 = .ok (.iadd, 1) := by decide +kernel
theorem dX6_isFaultDone_130 : decode cX6_isFaultDone 130 = .ok (.dup2, 1) := by decide +kernel
theorem dX6_isFaultDone_131 : decode cX6_isFaultDone 131 = .ok (.iaload, 1) := by decide +kernel
theorem dX6_isFaultDone_132 : decode cX6_isFaultDone 132 = .ok (.aload_n 0, 1) := by decide +kernel
theorem dX6_isFaultDone_133 : decode cX6_isFaultDone 133 = .ok (.getfield 7, 3) := by decide +kernel
theorem dX6_isFaultDone_136 : decode cX6_isFaultDone 136 = .ok (.iload_n 1, 1) := by decide +kernel
theorem dX6_isFaultDone_137 : decode cX6_isFaultDone 137 = .ok (.sipush 277, 3) := by decide +kernel
theorem dX6_isFaultDone_140 : decode cX6_isFaultDone 140 = .ok (.iadd, 1) := by decide +kernel
theorem dX6_isFaultDone_141 : decode cX6_isFaultDone 141 = .ok (.iaload, 1) := by decide +kernel
theorem dX6_isFaultDone_142 : decode cX6_isFaultDone 142 = .ok (.bipush 8, 2) := by decide +kernel
theorem dX6_isFaultDone_144 : decode cX6_isFaultDone 144 = .ok (.if_icmp .ge 7, 3) := by decide +kernel
theorem dX6_isFaultDone_147 : decode cX6_isFaultDone 147 = .ok (.iconst 1, 1) := by decide +kernel
theorem dX6_isFaultDone_148 : decode cX6_isFaultDone 148 = .ok (.goto 4, 3) := by decide +kernel
theorem dX6_isFaultDone_151 : decode cX6_isFaultDone 151 = .ok (.iconst 0, 1) := by decide +kernel
theorem dX6_isFaultDone_152 : decode cX6_isFaultDone 152 = .ok (.iadd, 1) := by decide +kernel
theorem dX6_isFaultDone_153 : decode cX6_isFaultDone 153 = .ok (.iastore, 1) := by decide +kernel
theorem dX6_isFaultDone_154 : decode cX6_isFaultDone 154 = .ok (.aload_n 0, 1) := by decide +kernel
theorem dX6_isFaultDone_155 : decode cX6_isFaultDone 155 = .ok (.getfield 7, 3) := by decide +kernel
theorem dX6_isFaultDone_158 : decode cX6_isFaultDone 158 = .ok (.iload_n 1, 1) := by decide +kernel
theorem dX6_isFaultDone_159 : decode cX6_isFaultDone 159 = .ok (.sipush 310, 3) := by decide +kernel
theorem dX6_isFaultDone_162 : decode cX6_isFaultDone 162 = .ok (.iadd, 1) := by decide +kernel
theorem dX6_isFaultDone_163 : decode cX6_isFaultDone 163 = .ok (.dup2, 1) := by decide +kernel
theorem dX6_isFaultDone_164 : decode cX6_isFaultDone 164 = .ok (.iaload, 1) := by decide +kernel
theorem dX6_isFaultDone_165 : decode cX6_isFaultDone 165 = .ok (.iconst 1, 1) := by decide +kernel
theorem dX6_isFaultDone_166 : decode cX6_isFaultDone 166 = .ok (.iadd, 1) := by decide +kernel
theorem dX6_isFaultDone_167 : decode cX6_isFaultDone 167 = .ok (.iastore, 1) := by decide +kernel
theorem dX6_isFaultDone_168 : decode cX6_isFaultDone 168 = .ok (.aload_n 0, 1) := by decide +kernel
theorem dX6_isFaultDone_169 : decode cX6_isFaultDone 169 = .ok (.getfield 7, 3) := by decide +kernel
theorem dX6_isFaultDone_172 : decode cX6_isFaultDone 172 = .ok (.iload_n 1, 1) := by decide +kernel
theorem dX6_isFaultDone_173 : decode cX6_isFaultDone 173 = .ok (.sipush 252, 3) := by decide +kernel
theorem dX6_isFaultDone_176 : decode cX6_isFaultDone 176 = .ok (.iadd, 1) := by decide +kernel
theorem dX6_isFaultDone_177 : decode cX6_isFaultDone 177 = .ok (.iload_n 2, 1) := by decide +kernel
theorem dX6_isFaultDone_178 : decode cX6_isFaultDone 178 = .ok (.iadd, 1) := by decide +kernel
theorem dX6_isFaultDone_179 : decode cX6_isFaultDone 179 = .ok (.iload 4, 2) := by decide +kernel
theorem dX6_isFaultDone_181 : decode cX6_isFaultDone 181 = .ok (.ifCond .ne 7, 3) := by decide +kernel
theorem dX6_isFaultDone_184 : decode cX6_isFaultDone 184 = .ok (.iconst 1, 1) := by decide +kernel
theorem dX6_isFaultDone_185 : decode cX6_isFaultDone 185 = .ok (.goto 15, 3) := by decide +kernel
theorem dX6_isFaultDone_188 : decode cX6_isFaultDone 188 = .ok (.aload_n 0, 1) := by decide +kernel
theorem dX6_isFaultDone_189 : decode cX6_isFaultDone 189 = .ok (.getfield 7, 3) := by decide +kernel
theorem dX6_isFaultDone_192 : decode cX6_isFaultDone 192 = .ok (.iload_n 1, 1) := by decide +kernel
theorem dX6_isFaultDone_193 : decode cX6_isFaultDone 193 = .ok (.sipush 252, 3) := by decide +kernel
theorem dX6_isFaultDone_196 : decode cX6_isFaultDone 196 = .ok (.iadd, 1) := by decide +kernel
theorem dX6_isFaultDone_197 : decode cX6_isFaultDone 197 = .ok (.iload_n 2, 1) := by decide +kernel
theorem dX6_isFaultDone_198 : decode cX6_isFaultDone 198 = .ok (.iadd, 1) := by decide +kernel
theorem dX6_isFaultDone_199 : decode cX6_isFaultDone 199 = .ok (.iaload, 1) := by decide +kernel
theorem dX6_isFaultDone_200 : decode cX6_isFaultDone 200 = .ok (.iastore, 1) := by decide +kernel
theorem dX6_isFaultDone_201 : decode cX6_isFaultDone 201 = .ok (.iload 4, 2) := by decide +kernel
theorem dX6_isFaultDone_203 : decode cX6_isFaultDone 203 = .ok (.iconst 2, 1) := by decide +kernel
theorem dX6_isFaultDone_204 : decode cX6_isFaultDone 204 = .ok (.if_icmp .ne 7, 3) := by decide +kernel
theorem dX6_isFaultDone_207 : decode cX6_isFaultDone 207 = .ok (.iconst 1, 1) := by decide +kernel
theorem dX6_isFaultDone_208 : decode cX6_isFaultDone 208 = .ok (.goto 4, 3) := by decide +kernel
theorem dX6_isFaultDone_211 : decode cX6_isFaultDone 211 = .ok (.iconst 0, 1) := by decide +kernel
theorem dX6_isFaultDone_212 : decode cX6_isFaultDone 212 = .ok (.ireturn, 1) := by decide +kernel
set_option maxRecDepth 20000 in
theorem ggX6_uses_X6_registerAt : GoodIn wsX6_uses wsX6_registerAt := goodIn_r _ [4] (by decide +kernel) (by decide +kernel)
set_option maxRecDepth 20000 in
theorem gX6_uses_X6_registerAt : GoodIn wsX6_uses (va_wsS RX6 52 yX6_registerAt wsX6_registerAt) := goodIn_app (goodIn_of _ (by decide +kernel)) ggX6_uses_X6_registerAt
set_option maxRecDepth 20000 in
theorem ggX6_uses_X6_isPoisoned : GoodIn wsX6_uses wsX6_isPoisoned := goodIn_r _ [8, 9, 18, 19, 20, 21, 22, 23, 24, 25] (by decide +kernel) (by decide +kernel)
set_option maxRecDepth 20000 in
theorem gX6_uses_X6_isPoisoned : GoodIn wsX6_uses (wsV RX6 38 RX6 yX6_isPoisoned wsX6_isPoisoned) := goodIn_app (goodIn_of _ (by decide +kernel)) ggX6_uses_X6_isPoisoned
set_option maxRecDepth 20000 in
theorem ggX6_uses_X6_isFaultDone : GoodIn wsX6_uses wsX6_isFaultDone := goodIn_r _ [13, 9, 1, 2, 3, 4, 18, 19, 20, 21, 22, 23, 24, 25] (by decide +kernel) (by decide +kernel)
set_option maxRecDepth 20000 in
theorem gX6_uses_X6_isFaultDone : GoodIn wsX6_uses (wsV RX6 56 RX6 yX6_isFaultDone wsX6_isFaultDone) := goodIn_app (goodIn_of _ (by decide +kernel)) ggX6_uses_X6_isFaultDone
set_option maxRecDepth 20000 in
theorem ggX6_uses_X6_lays : GoodIn wsX6_uses wsX6_lays := goodIn_r _ [17, 9, 18, 19, 20, 21, 22, 23, 24, 25] (by decide +kernel) (by decide +kernel)
set_option maxRecDepth 20000 in
theorem gX6_uses_X6_lays : GoodIn wsX6_uses (wsV RX6 30 RX6 yX6_lays wsX6_lays) := goodIn_app (goodIn_of _ (by decide +kernel)) ggX6_uses_X6_lays
theorem dX6_uses_0 : decode cX6_uses 0 = .ok (.iload_n 1, 1) := by decide +kernel
theorem dX6_uses_1 : decode cX6_uses 1 = .ok (.iload_n 2, 1) := by decide +kernel
theorem dX6_uses_2 : decode cX6_uses 2 = .ok (.iload_n 3, 1) := by decide +kernel
theorem dX6_uses_3 : decode cX6_uses 3 = .ok (.invokestatic 52, 3) := by decide +kernel
theorem dX6_uses_6 : decode cX6_uses 6 = .ok (.istore 5, 2) := by decide +kernel
theorem dX6_uses_8 : decode cX6_uses 8 = .ok (.iload_n 1, 1) := by decide +kernel
theorem dX6_uses_9 : decode cX6_uses 9 = .ok (.iload_n 2, 1) := by decide +kernel
theorem dX6_uses_10 : decode cX6_uses 10 = .ok (.iload 4, 2) := by decide +kernel
theorem dX6_uses_12 : decode cX6_uses 12 = .ok (.invokestatic 52, 3) := by decide +kernel
theorem dX6_uses_15 : decode cX6_uses 15 = .ok (.istore 6, 2) := by decide +kernel
theorem dX6_uses_17 : decode cX6_uses 17 = .ok (.aload_n 0, 1) := by decide +kernel
theorem dX6_uses_18 : decode cX6_uses 18 = .ok (.iload 5, 2) := by decide +kernel
theorem dX6_uses_20 : decode cX6_uses 20 = .ok (.invokevirtual 38, 3) := by decide +kernel
theorem dX6_uses_23 : decode cX6_uses 23 = .ok (.ifCond .ne 14, 3) := by decide +kernel
theorem dX6_uses_26 : decode cX6_uses 26 = .ok (.aload_n 0, 1) := by decide +kernel
theorem dX6_uses_27 : decode cX6_uses 27 = .ok (.iload 6, 2) := by decide +kernel
theorem dX6_uses_29 : decode cX6_uses 29 = .ok (.invokevirtual 38, 3) := by decide +kernel
theorem dX6_uses_32 : decode cX6_uses 32 = .ok (.ifCond .ne 5, 3) := by decide +kernel
theorem dX6_uses_35 : decode cX6_uses 35 = .ok (.iconst 1, 1) := by decide +kernel
theorem dX6_uses_36 : decode cX6_uses 36 = .ok (.ireturn, 1) := by decide +kernel
theorem dX6_uses_37 : decode cX6_uses 37 = .ok (.aload_n 0, 1) := by decide +kernel
theorem dX6_uses_38 : decode cX6_uses 38 = .ok (.iload_n 1, 1) := by decide +kernel
theorem dX6_uses_39 : decode cX6_uses 39 = .ok (.iload_n 2, 1) := by decide +kernel
theorem dX6_uses_40 : decode cX6_uses 40 = .ok (.aload_n 0, 1) := by decide +kernel
theorem dX6_uses_41 : decode cX6_uses 41 = .ok (.iload 5, 2) := by decide +kernel
theorem dX6_uses_43 : decode cX6_uses 43 = .ok (.invokevirtual 38, 3) := by decide +kernel
theorem dX6_uses_46 : decode cX6_uses 46 = .ok (.ifCond .eq 7, 3) := by decide +kernel
theorem dX6_uses_49 : decode cX6_uses 49 = .ok (.iload_n 3, 1) := by decide +kernel
theorem dX6_uses_50 : decode cX6_uses 50 = .ok (.goto 5, 3) := by decide +kernel
theorem dX6_uses_53 : decode cX6_uses 53 = .ok (.iload 4, 2) := by decide +kernel
theorem dX6_uses_55 : decode cX6_uses 55 = .ok (.invokevirtual 56, 3) := by decide +kernel
theorem dX6_uses_58 : decode cX6_uses 58 = .ok (.istore 7, 2) := by decide +kernel
theorem dX6_uses_60 : decode cX6_uses 60 = .ok (.iload 7, 2) := by decide +kernel
theorem dX6_uses_62 : decode cX6_uses 62 = .ok (.ifCond .eq 22, 3) := by decide +kernel
theorem dX6_uses_65 : decode cX6_uses 65 = .ok (.aload_n 0, 1) := by decide +kernel
theorem dX6_uses_66 : decode cX6_uses 66 = .ok (.iload 5, 2) := by decide +kernel
theorem dX6_uses_68 : decode cX6_uses 68 = .ok (.invokevirtual 38, 3) := by decide +kernel
theorem dX6_uses_71 : decode cX6_uses 71 = .ok (.ifCond .eq 13, 3) := by decide +kernel
theorem dX6_uses_74 : decode cX6_uses 74 = .ok (.aload_n 0, 1) := by decide +kernel
theorem dX6_uses_75 : decode cX6_uses 75 = .ok (.iload 5, 2) := by decide +kernel
theorem dX6_uses_77 : decode cX6_uses 77 = .ok (.iconst 0, 1) := by decide +kernel
theorem dX6_uses_78 : decode cX6_uses 78 = .ok (.bipush (-6), 2) := by decide +kernel
theorem dX6_uses_80 : decode cX6_uses 80 = .ok (.iconst 0, 1) := by decide +kernel
theorem dX6_uses_81 : decode cX6_uses 81 = .ok (.invokevirtual 30, 3) := by decide +kernel
theorem dX6_uses_84 : decode cX6_uses 84 = .ok (.iload 7, 2) := by decide +kernel
theorem dX6_uses_86 : decode cX6_uses 86 = .ok (.ifCond .eq 22, 3) := by decide +kernel
theorem dX6_uses_89 : decode cX6_uses 89 = .ok (.aload_n 0, 1) := by decide +kernel
theorem dX6_uses_90 : decode cX6_uses 90 = .ok (.iload 6, 2) := by decide +kernel
theorem dX6_uses_92 : decode cX6_uses 92 = .ok (.invokevirtual 38, 3) := by decide +kernel
theorem dX6_uses_95 : decode cX6_uses 95 = .ok (.ifCond .eq 13, 3) := by decide +kernel
theorem dX6_uses_98 : decode cX6_uses 98 = .ok (.aload_n 0, 1) := by decide +kernel
theorem dX6_uses_99 : decode cX6_uses 99 = .ok (.iload 6, 2) := by decide +kernel
theorem dX6_uses_101 : decode cX6_uses 101 = .ok (.iconst 0, 1) := by decide +kernel
theorem dX6_uses_102 : decode cX6_uses 102 = .ok (.bipush (-6), 2) := by decide +kernel
theorem dX6_uses_104 : decode cX6_uses 104 = .ok (.iconst 0, 1) := by decide +kernel
theorem dX6_uses_105 : decode cX6_uses 105 = .ok (.invokevirtual 30, 3) := by decide +kernel
theorem dX6_uses_108 : decode cX6_uses 108 = .ok (.iload 7, 2) := by decide +kernel
theorem dX6_uses_110 : decode cX6_uses 110 = .ok (.ireturn, 1) := by decide +kernel
theorem dX6_isStopped_0 : decode cX6_isStopped 0 = .ok (.aload_n 0, 1) := by decide +kernel
theorem dX6_isStopped_1 : decode cX6_isStopped 1 = .ok (.getfield 7, 3) := by decide +kernel
theorem dX6_isStopped_4 : decode cX6_isStopped 4 = .ok (.iload_n 1, 1) := by decide +kernel
theorem dX6_isStopped_5 : decode cX6_isStopped 5 = .ok (.sipush 252, 3) := by decide +kernel
theorem dX6_isStopped_8 : decode cX6_isStopped 8 = .ok (.iadd, 1) := by decide +kernel
theorem dX6_isStopped_9 : decode cX6_isStopped 9 = .ok (.iload_n 2, 1) := by decide +kernel
theorem dX6_isStopped_10 : decode cX6_isStopped 10 = .ok (.iadd, 1) := by decide +kernel
theorem dX6_isStopped_11 : decode cX6_isStopped 11 = .ok (.iaload, 1) := by decide +kernel
theorem dX6_isStopped_12 : decode cX6_isStopped 12 = .ok (.iconst 1, 1) := by decide +kernel
theorem dX6_isStopped_13 : decode cX6_isStopped 13 = .ok (.if_icmp .ne 7, 3) := by decide +kernel
theorem dX6_isStopped_16 : decode cX6_isStopped 16 = .ok (.iconst 1, 1) := by decide +kernel
theorem dX6_isStopped_17 : decode cX6_isStopped 17 = .ok (.goto 4, 3) := by decide +kernel
theorem dX6_isStopped_20 : decode cX6_isStopped 20 = .ok (.iconst 0, 1) := by decide +kernel
theorem dX6_isStopped_21 : decode cX6_isStopped 21 = .ok (.ireturn, 1) := by decide +kernel
set_option maxRecDepth 20000 in
theorem ggX6_injects_X6_wordAt : GoodIn wsX6_injects wsX6_wordAt := goodIn_r _ [5] (by decide +kernel) (by decide +kernel)
set_option maxRecDepth 20000 in
theorem gX6_injects_X6_wordAt : GoodIn wsX6_injects (va_wsS RX6 34 yX6_wordAt wsX6_wordAt) := goodIn_app (goodIn_of _ (by decide +kernel)) ggX6_injects_X6_wordAt
set_option maxRecDepth 20000 in
theorem ggX6_injects_X6_lays : GoodIn wsX6_injects wsX6_lays := goodIn_r _ [9, 1, 10, 11, 12, 13, 14, 15, 16, 17] (by decide +kernel) (by decide +kernel)
set_option maxRecDepth 20000 in
theorem gX6_injects_X6_lays : GoodIn wsX6_injects (wsV RX6 30 RX6 yX6_lays wsX6_lays) := goodIn_app (goodIn_of _ (by decide +kernel)) ggX6_injects_X6_lays
theorem dX6_injects_0 : decode cX6_injects 0 = .ok (.aload_n 0, 1) := by decide +kernel
theorem dX6_injects_1 : decode cX6_injects 1 = .ok (.getfield 7, 3) := by decide +kernel
theorem dX6_injects_4 : decode cX6_injects 4 = .ok (.iload_n 1, 1) := by decide +kernel
theorem dX6_injects_5 : decode cX6_injects 5 = .ok (.sipush 256, 3) := by decide +kernel
theorem dX6_injects_8 : decode cX6_injects 8 = .ok (.iadd, 1) := by decide +kernel
theorem dX6_injects_9 : decode cX6_injects 9 = .ok (.iaload, 1) := by decide +kernel
theorem dX6_injects_10 : decode cX6_injects 10 = .ok (.bipush 20, 2) := by decide +kernel
theorem dX6_injects_12 : decode cX6_injects 12 = .ok (.if_icmp .ne 6, 3) := by decide +kernel
theorem dX6_injects_15 : decode cX6_injects 15 = .ok (.bipush (-4), 2) := by decide +kernel
theorem dX6_injects_17 : decode cX6_injects 17 = .ok (.ireturn, 1) := by decide +kernel
theorem dX6_injects_18 : decode cX6_injects 18 = .ok (.aload_n 0, 1) := by decide +kernel
theorem dX6_injects_19 : decode cX6_injects 19 = .ok (.getfield 7, 3) := by decide +kernel
theorem dX6_injects_22 : decode cX6_injects 22 = .ok (.iload_n 1, 1) := by decide +kernel
theorem dX6_injects_23 : decode cX6_injects 23 = .ok (.sipush 256, 3) := by decide +kernel
theorem dX6_injects_26 : decode cX6_injects 26 = .ok (.iadd, 1) := by decide +kernel
theorem dX6_injects_27 : decode cX6_injects 27 = .ok (.iaload, 1) := by decide +kernel
theorem dX6_injects_28 : decode cX6_injects 28 = .ok (.istore_n 3, 1) := by decide +kernel
theorem dX6_injects_29 : decode cX6_injects 29 = .ok (.aload_n 0, 1) := by decide +kernel
theorem dX6_injects_30 : decode cX6_injects 30 = .ok (.iload_n 1, 1) := by decide +kernel
theorem dX6_injects_31 : decode cX6_injects 31 = .ok (.iload_n 2, 1) := by decide +kernel
theorem dX6_injects_32 : decode cX6_injects 32 = .ok (.invokestatic 34, 3) := by decide +kernel
theorem dX6_injects_35 : decode cX6_injects 35 = .ok (.aload_n 0, 1) := by decide +kernel
theorem dX6_injects_36 : decode cX6_injects 36 = .ok (.getfield 7, 3) := by decide +kernel
theorem dX6_injects_39 : decode cX6_injects 39 = .ok (.iload_n 1, 1) := by decide +kernel
theorem dX6_injects_40 : decode cX6_injects 40 = .ok (.iload_n 2, 1) := by decide +kernel
theorem dX6_injects_41 : decode cX6_injects 41 = .ok (.invokestatic 34, 3) := by decide +kernel
theorem dX6_injects_44 : decode cX6_injects 44 = .ok (.iaload, 1) := by decide +kernel
theorem dX6_injects_45 : decode cX6_injects 45 = .ok (.iload_n 3, 1) := by decide +kernel
theorem dX6_injects_46 : decode cX6_injects 46 = .ok (.iconst 0, 1) := by decide +kernel
theorem dX6_injects_47 : decode cX6_injects 47 = .ok (.invokevirtual 30, 3) := by decide +kernel
theorem dX6_injects_50 : decode cX6_injects 50 = .ok (.aload_n 0, 1) := by decide +kernel
theorem dX6_injects_51 : decode cX6_injects 51 = .ok (.getfield 7, 3) := by decide +kernel
theorem dX6_injects_54 : decode cX6_injects 54 = .ok (.iload_n 1, 1) := by decide +kernel
theorem dX6_injects_55 : decode cX6_injects 55 = .ok (.sipush 257, 3) := by decide +kernel
theorem dX6_injects_58 : decode cX6_injects 58 = .ok (.iadd, 1) := by decide +kernel
theorem dX6_injects_59 : decode cX6_injects 59 = .ok (.iload_n 3, 1) := by decide +kernel
theorem dX6_injects_60 : decode cX6_injects 60 = .ok (.iadd, 1) := by decide +kernel
theorem dX6_injects_61 : decode cX6_injects 61 = .ok (.iload_n 2, 1) := by decide +kernel
theorem dX6_injects_62 : decode cX6_injects 62 = .ok (.iastore, 1) := by decide +kernel
theorem dX6_injects_63 : decode cX6_injects 63 = .ok (.aload_n 0, 1) := by decide +kernel
theorem dX6_injects_64 : decode cX6_injects 64 = .ok (.getfield 7, 3) := by decide +kernel
theorem dX6_injects_67 : decode cX6_injects 67 = .ok (.iload_n 1, 1) := by decide +kernel
theorem dX6_injects_68 : decode cX6_injects 68 = .ok (.sipush 256, 3) := by decide +kernel
theorem dX6_injects_71 : decode cX6_injects 71 = .ok (.iadd, 1) := by decide +kernel
theorem dX6_injects_72 : decode cX6_injects 72 = .ok (.dup2, 1) := by decide +kernel
theorem dX6_injects_73 : decode cX6_injects 73 = .ok (.iaload, 1) := by decide +kernel
theorem dX6_injects_74 : decode cX6_injects 74 = .ok (.iconst 1, 1) := by decide +kernel
theorem dX6_injects_75 : decode cX6_injects 75 = .ok (.iadd, 1) := by decide +kernel
theorem dX6_injects_76 : decode cX6_injects 76 = .ok (.iastore, 1) := by decide +kernel
theorem dX6_injects_77 : decode cX6_injects 77 = .ok (.iload_n 3, 1) := by decide +kernel
theorem dX6_injects_78 : decode cX6_injects 78 = .ok (.ireturn, 1) := by decide +kernel
set_option maxRecDepth 20000 in
theorem ggX6_sets_X6_isStopped : GoodIn wsX6_sets wsX6_isStopped := goodIn_r _ [6, 1, 14, 15, 16, 17, 18, 19, 20, 21] (by decide +kernel) (by decide +kernel)
set_option maxRecDepth 20000 in
theorem gX6_sets_X6_isStopped : GoodIn wsX6_sets (wsV RX6 59 RX6 yX6_isStopped wsX6_isStopped) := goodIn_app (goodIn_of _ (by decide +kernel)) ggX6_sets_X6_isStopped
set_option maxRecDepth 20000 in
theorem ggX6_sets_X6_registerAt : GoodIn wsX6_sets wsX6_registerAt := goodIn_r _ [9] (by decide +kernel) (by decide +kernel)
set_option maxRecDepth 20000 in
theorem gX6_sets_X6_registerAt : GoodIn wsX6_sets (va_wsS RX6 52 yX6_registerAt wsX6_registerAt) := goodIn_app (goodIn_of _ (by decide +kernel)) ggX6_sets_X6_registerAt
set_option maxRecDepth 20000 in
theorem ggX6_sets_X6_lays : GoodIn wsX6_sets wsX6_lays := goodIn_r _ [13, 1, 14, 15, 16, 17, 18, 19, 20, 21] (by decide +kernel) (by decide +kernel)
set_option maxRecDepth 20000 in
theorem gX6_sets_X6_lays : GoodIn wsX6_sets (wsV RX6 30 RX6 yX6_lays wsX6_lays) := goodIn_app (goodIn_of _ (by decide +kernel)) ggX6_sets_X6_lays
theorem dX6_sets_0 : decode cX6_sets 0 = .ok (.aload_n 0, 1) := by decide +kernel
theorem dX6_sets_1 : decode cX6_sets 1 = .ok (.iload_n 1, 1) := by decide +kernel
theorem dX6_sets_2 : decode cX6_sets 2 = .ok (.iload_n 2, 1) := by decide +kernel
theorem dX6_sets_3 : decode cX6_sets 3 = .ok (.invokevirtual 59, 3) := by decide +kernel
theorem dX6_sets_6 : decode cX6_sets 6 = .ok (.ifCond .eq 6, 3) := by decide +kernel
theorem dX6_sets_9 : decode cX6_sets 9 = .ok (.bipush (-5), 2) := by decide +kernel
theorem dX6_sets_11 : decode cX6_sets 11 = .ok (.ireturn, 1) := by decide +kernel
theorem dX6_sets_12 : decode cX6_sets 12 = .ok (.iload_n 1, 1) := by decide +kernel
theorem dX6_sets_13 : decode cX6_sets 13 = .ok (.iload_n 2, 1) := by decide +kernel
theorem dX6_sets_14 : decode cX6_sets 14 = .ok (.iload_n 3, 1) := by decide +kernel
theorem dX6_sets_15 : decode cX6_sets 15 = .ok (.invokestatic 52, 3) := by decide +kernel
theorem dX6_sets_18 : decode cX6_sets 18 = .ok (.istore 5, 2) := by decide +kernel
theorem dX6_sets_20 : decode cX6_sets 20 = .ok (.aload_n 0, 1) := by decide +kernel
theorem dX6_sets_21 : decode cX6_sets 21 = .ok (.getfield 7, 3) := by decide +kernel
theorem dX6_sets_24 : decode cX6_sets 24 = .ok (.iload 5, 2) := by decide +kernel
theorem dX6_sets_26 : decode cX6_sets 26 = .ok (.iaload, 1) := by decide +kernel
theorem dX6_sets_27 : decode cX6_sets 27 = .ok (.istore 6, 2) := by decide +kernel
theorem dX6_sets_29 : decode cX6_sets 29 = .ok (.aload_n 0, 1) := by decide +kernel
theorem dX6_sets_30 : decode cX6_sets 30 = .ok (.iload 5, 2) := by decide +kernel
theorem dX6_sets_32 : decode cX6_sets 32 = .ok (.iload 4, 2) := by decide +kernel
theorem dX6_sets_34 : decode cX6_sets 34 = .ok (.bipush (-6), 2) := by decide +kernel
theorem dX6_sets_36 : decode cX6_sets 36 = .ok (.iconst 0, 1) := by decide +kernel
theorem dX6_sets_37 : decode cX6_sets 37 = .ok (.invokevirtual 30, 3) := by decide +kernel
theorem dX6_sets_40 : decode cX6_sets 40 = .ok (.iload 6, 2) := by decide +kernel
theorem dX6_sets_42 : decode cX6_sets 42 = .ok (.ireturn, 1) := by decide +kernel
set_option maxRecDepth 20000 in
theorem ggX6_loads_X6_isStopped : GoodIn wsX6_loads wsX6_isStopped := goodIn_r _ [6, 1, 43, 44, 45, 46, 47, 48, 49, 50] (by decide +kernel) (by decide +kernel)
set_option maxRecDepth 20000 in
theorem gX6_loads_X6_isStopped : GoodIn wsX6_loads (wsV RX6 59 RX6 yX6_isStopped wsX6_isStopped) := goodIn_app (goodIn_of _ (by decide +kernel)) ggX6_loads_X6_isStopped
set_option maxRecDepth 20000 in
theorem ggX6_loads_X6_fetches : GoodIn wsX6_loads wsX6_fetches := goodIn_r _ [10, 1, 11, 12, 13, 5, 14, 15, 16, 17, 18, 19, 20, 21, 22, 23, 24, 25, 26, 27, 28, 29, 30, 31, 32, 43, 44, 45, 46, 47, 48, 49, 50] (by decide +kernel) (by decide +kernel)
set_option maxRecDepth 20000 in
theorem gX6_loads_X6_fetches : GoodIn wsX6_loads (wsV RX6 62 RX6 yX6_fetches wsX6_fetches) := goodIn_app (goodIn_of _ (by decide +kernel)) ggX6_loads_X6_fetches
set_option maxRecDepth 20000 in
theorem ggX6_loads_X6_wordAt : GoodIn wsX6_loads wsX6_wordAt := goodIn_r _ [17] (by decide +kernel) (by decide +kernel)
set_option maxRecDepth 20000 in
theorem gX6_loads_X6_wordAt : GoodIn wsX6_loads (va_wsS RX6 34 yX6_wordAt wsX6_wordAt) := goodIn_app (goodIn_of _ (by decide +kernel)) ggX6_loads_X6_wordAt
set_option maxRecDepth 20000 in
theorem ggX6_loads_X6_registerAt : GoodIn wsX6_loads wsX6_registerAt := goodIn_r _ [35] (by decide +kernel) (by decide +kernel)
set_option maxRecDepth 20000 in
theorem gX6_loads_X6_registerAt : GoodIn wsX6_loads (va_wsS RX6 52 yX6_registerAt wsX6_registerAt) := goodIn_app (goodIn_of _ (by decide +kernel)) ggX6_loads_X6_registerAt
set_option maxRecDepth 20000 in
theorem ggX6_loads_X6_gets : GoodIn wsX6_loads wsX6_gets := goodIn_r _ [39, 1, 40, 41, 5, 42, 29, 30, 31, 32, 43, 44, 45, 46, 47, 48, 49, 50] (by decide +kernel) (by decide +kernel)
set_option maxRecDepth 20000 in
theorem gX6_loads_X6_gets : GoodIn wsX6_loads (wsV RX6 65 RX6 yX6_gets wsX6_gets) := goodIn_app (goodIn_of _ (by decide +kernel)) ggX6_loads_X6_gets
theorem dX6_loads_0 : decode cX6_loads 0 = .ok (.aload_n 0, 1) := by decide +kernel
theorem dX6_loads_1 : decode cX6_loads 1 = .ok (.iload_n 1, 1) := by decide +kernel
theorem dX6_loads_2 : decode cX6_loads 2 = .ok (.iload_n 2, 1) := by decide +kernel
theorem dX6_loads_3 : decode cX6_loads 3 = .ok (.invokevirtual 59, 3) := by decide +kernel
theorem dX6_loads_6 : decode cX6_loads 6 = .ok (.ifCond .eq 6, 3) := by decide +kernel
theorem dX6_loads_9 : decode cX6_loads 9 = .ok (.bipush (-5), 2) := by decide +kernel
theorem dX6_loads_11 : decode cX6_loads 11 = .ok (.ireturn, 1) := by decide +kernel
theorem dX6_loads_12 : decode cX6_loads 12 = .ok (.aload_n 0, 1) := by decide +kernel
theorem dX6_loads_13 : decode cX6_loads 13 = .ok (.iload_n 1, 1) := by decide +kernel
theorem dX6_loads_14 : decode cX6_loads 14 = .ok (.iload 4, 2) := by decide +kernel
theorem dX6_loads_16 : decode cX6_loads 16 = .ok (.invokevirtual 62, 3) := by decide +kernel
theorem dX6_loads_19 : decode cX6_loads 19 = .ok (.istore 6, 2) := by decide +kernel
theorem dX6_loads_21 : decode cX6_loads 21 = .ok (.iload_n 1, 1) := by decide +kernel
theorem dX6_loads_22 : decode cX6_loads 22 = .ok (.iload 4, 2) := by decide +kernel
theorem dX6_loads_24 : decode cX6_loads 24 = .ok (.invokestatic 34, 3) := by decide +kernel
theorem dX6_loads_27 : decode cX6_loads 27 = .ok (.istore 7, 2) := by decide +kernel
theorem dX6_loads_29 : decode cX6_loads 29 = .ok (.iload 5, 2) := by decide +kernel
theorem dX6_loads_31 : decode cX6_loads 31 = .ok (.iconst 2, 1) := by decide +kernel
theorem dX6_loads_32 : decode cX6_loads 32 = .ok (.if_icmp .ne 13, 3) := by decide +kernel
theorem dX6_loads_35 : decode cX6_loads 35 = .ok (.aload_n 0, 1) := by decide +kernel
theorem dX6_loads_36 : decode cX6_loads 36 = .ok (.getfield 7, 3) := by decide +kernel
theorem dX6_loads_39 : decode cX6_loads 39 = .ok (.iload 7, 2) := by decide +kernel
theorem dX6_loads_41 : decode cX6_loads 41 = .ok (.iaload, 1) := by decide +kernel
theorem dX6_loads_42 : decode cX6_loads 42 = .ok (.goto 33, 3) := by decide +kernel
theorem dX6_loads_45 : decode cX6_loads 45 = .ok (.iload 5, 2) := by decide +kernel
theorem dX6_loads_47 : decode cX6_loads 47 = .ok (.ifCond .ne 17, 3) := by decide +kernel
theorem dX6_loads_50 : decode cX6_loads 50 = .ok (.aload_n 0, 1) := by decide +kernel
theorem dX6_loads_51 : decode cX6_loads 51 = .ok (.getfield 7, 3) := by decide +kernel
theorem dX6_loads_54 : decode cX6_loads 54 = .ok (.iload 7, 2) := by decide +kernel
theorem dX6_loads_56 : decode cX6_loads 56 = .ok (.iaload, 1) := by decide +kernel
theorem dX6_loads_57 : decode cX6_loads 57 = .ok (.sipush 256, 3) := by decide +kernel
theorem dX6_loads_60 : decode cX6_loads 60 = .ok (.irem, 1) := by decide +kernel
theorem dX6_loads_61 : decode cX6_loads 61 = .ok (.goto 14, 3) := by decide +kernel
theorem dX6_loads_64 : decode cX6_loads 64 = .ok (.aload_n 0, 1) := by decide +kernel
theorem dX6_loads_65 : decode cX6_loads 65 = .ok (.getfield 7, 3) := by decide +kernel
theorem dX6_loads_68 : decode cX6_loads 68 = .ok (.iload 7, 2) := by decide +kernel
theorem dX6_loads_70 : decode cX6_loads 70 = .ok (.iaload, 1) := by decide +kernel
theorem dX6_loads_71 : decode cX6_loads 71 = .ok (.sipush 256, 3) := by decide +kernel
theorem dX6_loads_74 : decode cX6_loads 74 = .ok (.idiv, 1) := by decide +kernel
theorem dX6_loads_75 : decode cX6_loads 75 = .ok (.istore 8, 2) := by decide +kernel
theorem dX6_loads_77 : decode cX6_loads 77 = .ok (.aload_n 0, 1) := by decide +kernel
theorem dX6_loads_78 : decode cX6_loads 78 = .ok (.iload_n 1, 1) := by decide +kernel
theorem dX6_loads_79 : decode cX6_loads 79 = .ok (.iload_n 2, 1) := by decide +kernel
theorem dX6_loads_80 : decode cX6_loads 80 = .ok (.iload_n 3, 1) := by decide +kernel
theorem dX6_loads_81 : decode cX6_loads 81 = .ok (.invokestatic 52, 3) := by decide +kernel
theorem dX6_loads_84 : decode cX6_loads 84 = .ok (.iload 8, 2) := by decide +kernel
theorem dX6_loads_86 : decode cX6_loads 86 = .ok (.iload 7, 2) := by decide +kernel
theorem dX6_loads_88 : decode cX6_loads 88 = .ok (.invokevirtual 65, 3) := by decide +kernel
theorem dX6_loads_91 : decode cX6_loads 91 = .ok (.iload 6, 2) := by decide +kernel
theorem dX6_loads_93 : decode cX6_loads 93 = .ok (.ifCond .ge 8, 3) := by decide +kernel
theorem dX6_loads_96 : decode cX6_loads 96 = .ok (.iload 6, 2) := by decide +kernel
theorem dX6_loads_98 : decode cX6_loads 98 = .ok (.goto 5, 3) := by decide +kernel
theorem dX6_loads_101 : decode cX6_loads 101 = .ok (.iload 8, 2) := by decide +kernel
theorem dX6_loads_103 : decode cX6_loads 103 = .ok (.ireturn, 1) := by decide +kernel
set_option maxRecDepth 20000 in
theorem ggX6_stores_X6_isStopped : GoodIn wsX6_stores wsX6_isStopped := goodIn_r _ [6, 1, 39, 40, 41, 42, 43, 44, 45, 46] (by decide +kernel) (by decide +kernel)
set_option maxRecDepth 20000 in
theorem gX6_stores_X6_isStopped : GoodIn wsX6_stores (wsV RX6 59 RX6 yX6_isStopped wsX6_isStopped) := goodIn_app (goodIn_of _ (by decide +kernel)) ggX6_stores_X6_isStopped
set_option maxRecDepth 20000 in
theorem ggX6_stores_X6_registerAt : GoodIn wsX6_stores wsX6_registerAt := goodIn_r _ [9] (by decide +kernel) (by decide +kernel)
set_option maxRecDepth 20000 in
theorem gX6_stores_X6_registerAt : GoodIn wsX6_stores (va_wsS RX6 52 yX6_registerAt wsX6_registerAt) := goodIn_app (goodIn_of _ (by decide +kernel)) ggX6_stores_X6_registerAt
set_option maxRecDepth 20000 in
theorem ggX6_stores_X6_wordAt : GoodIn wsX6_stores wsX6_wordAt := goodIn_r _ [12] (by decide +kernel) (by decide +kernel)
set_option maxRecDepth 20000 in
theorem gX6_stores_X6_wordAt : GoodIn wsX6_stores (va_wsS RX6 34 yX6_wordAt wsX6_wordAt) := goodIn_app (goodIn_of _ (by decide +kernel)) ggX6_stores_X6_wordAt
set_option maxRecDepth 20000 in
theorem ggX6_stores_X6_gets : GoodIn wsX6_stores wsX6_gets := goodIn_r _ [16, 1, 17, 18, 5, 19, 20, 21, 22, 23, 39, 40, 41, 42, 43, 44, 45, 46] (by decide +kernel) (by decide +kernel)
set_option maxRecDepth 20000 in
theorem gX6_stores_X6_gets : GoodIn wsX6_stores (wsV RX6 65 RX6 yX6_gets wsX6_gets) := goodIn_app (goodIn_of _ (by decide +kernel)) ggX6_stores_X6_gets
set_option maxRecDepth 20000 in
theorem ggX6_stores_X6_written : GoodIn wsX6_stores wsX6_written := goodIn_r _ [27, 1, 10, 11, 5, 12, 28, 29, 30, 31, 32, 33, 34, 20, 21, 22, 23, 39, 40, 41, 42, 43, 44, 45, 46] (by decide +kernel) (by decide +kernel)
set_option maxRecDepth 20000 in
theorem gX6_stores_X6_written : GoodIn wsX6_stores (wsV RX6 69 RX6 yX6_written wsX6_written) := goodIn_app (goodIn_of _ (by decide +kernel)) ggX6_stores_X6_written
set_option maxRecDepth 20000 in
theorem ggX6_stores_X6_isPoisoned : GoodIn wsX6_stores wsX6_isPoisoned := goodIn_r _ [38, 1, 39, 40, 41, 42, 43, 44, 45, 46] (by decide +kernel) (by decide +kernel)
set_option maxRecDepth 20000 in
theorem gX6_stores_X6_isPoisoned : GoodIn wsX6_stores (wsV RX6 38 RX6 yX6_isPoisoned wsX6_isPoisoned) := goodIn_app (goodIn_of _ (by decide +kernel)) ggX6_stores_X6_isPoisoned
theorem dX6_stores_0 : decode cX6_stores 0 = .ok (.aload_n 0, 1) := by decide +kernel
theorem dX6_stores_1 : decode cX6_stores 1 = .ok (.iload_n 1, 1) := by decide +kernel
theorem dX6_stores_2 : decode cX6_stores 2 = .ok (.iload_n 2, 1) := by decide +kernel
theorem dX6_stores_3 : decode cX6_stores 3 = .ok (.invokevirtual 59, 3) := by decide +kernel
theorem dX6_stores_6 : decode cX6_stores 6 = .ok (.ifCond .eq 6, 3) := by decide +kernel
theorem dX6_stores_9 : decode cX6_stores 9 = .ok (.bipush (-5), 2) := by decide +kernel
theorem dX6_stores_11 : decode cX6_stores 11 = .ok (.ireturn, 1) := by decide +kernel
theorem dX6_stores_12 : decode cX6_stores 12 = .ok (.iload_n 1, 1) := by decide +kernel
theorem dX6_stores_13 : decode cX6_stores 13 = .ok (.iload_n 2, 1) := by decide +kernel
theorem dX6_stores_14 : decode cX6_stores 14 = .ok (.iload_n 3, 1) := by decide +kernel
theorem dX6_stores_15 : decode cX6_stores 15 = .ok (.invokestatic 52, 3) := by decide +kernel
theorem dX6_stores_18 : decode cX6_stores 18 = .ok (.istore 5, 2) := by decide +kernel
theorem dX6_stores_20 : decode cX6_stores 20 = .ok (.aload_n 0, 1) := by decide +kernel
theorem dX6_stores_21 : decode cX6_stores 21 = .ok (.iload_n 1, 1) := by decide +kernel
theorem dX6_stores_22 : decode cX6_stores 22 = .ok (.iload 4, 2) := by decide +kernel
theorem dX6_stores_24 : decode cX6_stores 24 = .ok (.invokestatic 34, 3) := by decide +kernel
theorem dX6_stores_27 : decode cX6_stores 27 = .ok (.aload_n 0, 1) := by decide +kernel
theorem dX6_stores_28 : decode cX6_stores 28 = .ok (.getfield 7, 3) := by decide +kernel
theorem dX6_stores_31 : decode cX6_stores 31 = .ok (.iload 5, 2) := by decide +kernel
theorem dX6_stores_33 : decode cX6_stores 33 = .ok (.iaload, 1) := by decide +kernel
theorem dX6_stores_34 : decode cX6_stores 34 = .ok (.iload 5, 2) := by decide +kernel
theorem dX6_stores_36 : decode cX6_stores 36 = .ok (.invokevirtual 65, 3) := by decide +kernel
theorem dX6_stores_39 : decode cX6_stores 39 = .ok (.aload_n 0, 1) := by decide +kernel
theorem dX6_stores_40 : decode cX6_stores 40 = .ok (.iload_n 1, 1) := by decide +kernel
theorem dX6_stores_41 : decode cX6_stores 41 = .ok (.iload 4, 2) := by decide +kernel
theorem dX6_stores_43 : decode cX6_stores 43 = .ok (.invokevirtual 69, 3) := by decide +kernel
theorem dX6_stores_46 : decode cX6_stores 46 = .ok (.aload_n 0, 1) := by decide +kernel
theorem dX6_stores_47 : decode cX6_stores 47 = .ok (.iload 5, 2) := by decide +kernel
theorem dX6_stores_49 : decode cX6_stores 49 = .ok (.invokevirtual 38, 3) := by decide +kernel
theorem dX6_stores_52 : decode cX6_stores 52 = .ok (.ifCond .eq 7, 3) := by decide +kernel
theorem dX6_stores_55 : decode cX6_stores 55 = .ok (.iconst 1, 1) := by decide +kernel
theorem dX6_stores_56 : decode cX6_stores 56 = .ok (.goto 4, 3) := by decide +kernel
theorem dX6_stores_59 : decode cX6_stores 59 = .ok (.iconst 0, 1) := by decide +kernel
theorem dX6_stores_60 : decode cX6_stores 60 = .ok (.ireturn, 1) := by decide +kernel
set_option maxRecDepth 20000 in
theorem ggX6_storesByte_X6_isStopped : GoodIn wsX6_storesByte wsX6_isStopped := goodIn_r _ [6, 1, 47, 48, 49, 50, 51, 52, 53, 54] (by decide +kernel) (by decide +kernel)
set_option maxRecDepth 20000 in
theorem gX6_storesByte_X6_isStopped : GoodIn wsX6_storesByte (wsV RX6 59 RX6 yX6_isStopped wsX6_isStopped) := goodIn_app (goodIn_of _ (by decide +kernel)) ggX6_storesByte_X6_isStopped
set_option maxRecDepth 20000 in
theorem ggX6_storesByte_X6_fetches : GoodIn wsX6_storesByte wsX6_fetches := goodIn_r _ [10, 1, 11, 12, 13, 5, 14, 15, 16, 17, 18, 19, 20, 21, 22, 23, 24, 25, 26, 27, 28, 29, 30, 31, 32, 47, 48, 49, 50, 51, 52, 53, 54] (by decide +kernel) (by decide +kernel)
set_option maxRecDepth 20000 in
theorem gX6_storesByte_X6_fetches : GoodIn wsX6_storesByte (wsV RX6 62 RX6 yX6_fetches wsX6_fetches) := goodIn_app (goodIn_of _ (by decide +kernel)) ggX6_storesByte_X6_fetches
set_option maxRecDepth 20000 in
theorem ggX6_storesByte_X6_registerAt : GoodIn wsX6_storesByte wsX6_registerAt := goodIn_r _ [35] (by decide +kernel) (by decide +kernel)
set_option maxRecDepth 20000 in
theorem gX6_storesByte_X6_registerAt : GoodIn wsX6_storesByte (va_wsS RX6 52 yX6_registerAt wsX6_registerAt) := goodIn_app (goodIn_of _ (by decide +kernel)) ggX6_storesByte_X6_registerAt
set_option maxRecDepth 20000 in
theorem ggX6_storesByte_X6_wordAt : GoodIn wsX6_storesByte wsX6_wordAt := goodIn_r _ [17] (by decide +kernel) (by decide +kernel)
set_option maxRecDepth 20000 in
theorem gX6_storesByte_X6_wordAt : GoodIn wsX6_storesByte (va_wsS RX6 34 yX6_wordAt wsX6_wordAt) := goodIn_app (goodIn_of _ (by decide +kernel)) ggX6_storesByte_X6_wordAt
set_option maxRecDepth 20000 in
theorem ggX6_storesByte_X6_isPoisoned : GoodIn wsX6_storesByte wsX6_isPoisoned := goodIn_r _ [21, 1, 47, 48, 49, 50, 51, 52, 53, 54] (by decide +kernel) (by decide +kernel)
set_option maxRecDepth 20000 in
theorem gX6_storesByte_X6_isPoisoned : GoodIn wsX6_storesByte (wsV RX6 38 RX6 yX6_isPoisoned wsX6_isPoisoned) := goodIn_app (goodIn_of _ (by decide +kernel)) ggX6_storesByte_X6_isPoisoned
set_option maxRecDepth 20000 in
theorem ggX6_storesByte_X6_gets : GoodIn wsX6_storesByte wsX6_gets := goodIn_r _ [39, 1, 40, 41, 5, 42, 29, 30, 31, 32, 47, 48, 49, 50, 51, 52, 53, 54] (by decide +kernel) (by decide +kernel)
set_option maxRecDepth 20000 in
theorem gX6_storesByte_X6_gets : GoodIn wsX6_storesByte (wsV RX6 65 RX6 yX6_gets wsX6_gets) := goodIn_app (goodIn_of _ (by decide +kernel)) ggX6_storesByte_X6_gets
set_option maxRecDepth 20000 in
theorem ggX6_storesByte_X6_written : GoodIn wsX6_storesByte wsX6_written := goodIn_r _ [46, 1, 15, 16, 5, 17, 22, 23, 24, 25, 26, 27, 28, 29, 30, 31, 32, 47, 48, 49, 50, 51, 52, 53, 54] (by decide +kernel) (by decide +kernel)
set_option maxRecDepth 20000 in
theorem gX6_storesByte_X6_written : GoodIn wsX6_storesByte (wsV RX6 69 RX6 yX6_written wsX6_written) := goodIn_app (goodIn_of _ (by decide +kernel)) ggX6_storesByte_X6_written
theorem dX6_storesByte_0 : decode cX6_storesByte 0 = .ok (.aload_n 0, 1) := by decide +kernel
theorem dX6_storesByte_1 : decode cX6_storesByte 1 = .ok (.iload_n 1, 1) := by decide +kernel
theorem dX6_storesByte_2 : decode cX6_storesByte 2 = .ok (.iload_n 2, 1) := by decide +kernel
theorem dX6_storesByte_3 : decode cX6_storesByte 3 = .ok (.invokevirtual 59, 3) := by decide +kernel
theorem dX6_storesByte_6 : decode cX6_storesByte 6 = .ok (.ifCond .eq 6, 3) := by decide +kernel
theorem dX6_storesByte_9 : decode cX6_storesByte 9 = .ok (.bipush (-5), 2) := by decide +kernel
theorem dX6_storesByte_11 : decode cX6_storesByte 11 = .ok (.ireturn, 1) := by decide +kernel
theorem dX6_storesByte_12 : decode cX6_storesByte 12 = .ok (.aload_n 0, 1) := by decide +kernel
theorem dX6_storesByte_13 : decode cX6_storesByte 13 = .ok (.iload_n 1, 1) := by decide +kernel
theorem dX6_storesByte_14 : decode cX6_storesByte 14 = .ok (.iload 4, 2) := by decide +kernel
theorem dX6_storesByte_16 : decode cX6_storesByte 16 = .ok (.invokevirtual 62, 3) := by decide +kernel
theorem dX6_storesByte_19 : decode cX6_storesByte 19 = .ok (.istore 6, 2) := by decide +kernel
theorem dX6_storesByte_21 : decode cX6_storesByte 21 = .ok (.iload_n 1, 1) := by decide +kernel
theorem dX6_storesByte_22 : decode cX6_storesByte 22 = .ok (.iload_n 2, 1) := by decide +kernel
theorem dX6_storesByte_23 : decode cX6_storesByte 23 = .ok (.iload_n 3, 1) := by decide +kernel
theorem dX6_storesByte_24 : decode cX6_storesByte 24 = .ok (.invokestatic 52, 3) := by decide +kernel
theorem dX6_storesByte_27 : decode cX6_storesByte 27 = .ok (.istore 7, 2) := by decide +kernel
theorem dX6_storesByte_29 : decode cX6_storesByte 29 = .ok (.iload_n 1, 1) := by decide +kernel
theorem dX6_storesByte_30 : decode cX6_storesByte 30 = .ok (.iload 4, 2) := by decide +kernel
theorem dX6_storesByte_32 : decode cX6_storesByte 32 = .ok (.invokestatic 34, 3) := by decide +kernel
theorem dX6_storesByte_35 : decode cX6_storesByte 35 = .ok (.istore 8, 2) := by decide +kernel
theorem dX6_storesByte_37 : decode cX6_storesByte 37 = .ok (.aload_n 0, 1) := by decide +kernel
theorem dX6_storesByte_38 : decode cX6_storesByte 38 = .ok (.getfield 7, 3) := by decide +kernel
theorem dX6_storesByte_41 : decode cX6_storesByte 41 = .ok (.iload 7, 2) := by decide +kernel
theorem dX6_storesByte_43 : decode cX6_storesByte 43 = .ok (.iaload, 1) := by decide +kernel
theorem dX6_storesByte_44 : decode cX6_storesByte 44 = .ok (.sipush 256, 3) := by decide +kernel
theorem dX6_storesByte_47 : decode cX6_storesByte 47 = .ok (.irem, 1) := by decide +kernel
theorem dX6_storesByte_48 : decode cX6_storesByte 48 = .ok (.istore 9, 2) := by decide +kernel
theorem dX6_storesByte_50 : decode cX6_storesByte 50 = .ok (.iload 5, 2) := by decide +kernel
theorem dX6_storesByte_52 : decode cX6_storesByte 52 = .ok (.ifCond .ne 24, 3) := by decide +kernel
theorem dX6_storesByte_55 : decode cX6_storesByte 55 = .ok (.aload_n 0, 1) := by decide +kernel
theorem dX6_storesByte_56 : decode cX6_storesByte 56 = .ok (.getfield 7, 3) := by decide +kernel
theorem dX6_storesByte_59 : decode cX6_storesByte 59 = .ok (.iload 8, 2) := by decide +kernel
theorem dX6_storesByte_61 : decode cX6_storesByte 61 = .ok (.iaload, 1) := by decide +kernel
theorem dX6_storesByte_62 : decode cX6_storesByte 62 = .ok (.sipush 256, 3) := by decide +kernel
theorem dX6_storesByte_65 : decode cX6_storesByte 65 = .ok (.idiv, 1) := by decide +kernel
theorem dX6_storesByte_66 : decode cX6_storesByte 66 = .ok (.sipush 256, 3) := by decide +kernel
theorem dX6_storesByte_69 : decode cX6_storesByte 69 = .ok (.imul, 1) := by decide +kernel
theorem dX6_storesByte_70 : decode cX6_storesByte 70 = .ok (.iload 9, 2) := by decide +kernel
theorem dX6_storesByte_72 : decode cX6_storesByte 72 = .ok (.iadd, 1) := by decide +kernel
theorem dX6_storesByte_73 : decode cX6_storesByte 73 = .ok (.goto 21, 3) := by decide +kernel
theorem dX6_storesByte_76 : decode cX6_storesByte 76 = .ok (.sipush 256, 3) := by decide +kernel
theorem dX6_storesByte_79 : decode cX6_storesByte 79 = .ok (.iload 9, 2) := by decide +kernel
theorem dX6_storesByte_81 : decode cX6_storesByte 81 = .ok (.imul, 1) := by decide +kernel
theorem dX6_storesByte_82 : decode cX6_storesByte 82 = .ok (.aload_n 0, 1) := by decide +kernel
theorem dX6_storesByte_83 : decode cX6_storesByte 83 = .ok (.getfield 7, 3) := by decide +kernel
theorem dX6_storesByte_86 : decode cX6_storesByte 86 = .ok (.iload 8, 2) := by decide +kernel
theorem dX6_storesByte_88 : decode cX6_storesByte 88 = .ok (.iaload, 1) := by decide +kernel
theorem dX6_storesByte_89 : decode cX6_storesByte 89 = .ok (.sipush 256, 3) := by decide +kernel
theorem dX6_storesByte_92 : decode cX6_storesByte 92 = .ok (.irem, 1) := by decide +kernel
theorem dX6_storesByte_93 : decode cX6_storesByte 93 = .ok (.iadd, 1) := by decide +kernel
theorem dX6_storesByte_94 : decode cX6_storesByte 94 = .ok (.istore 10, 2) := by decide +kernel
theorem dX6_storesByte_96 : decode cX6_storesByte 96 = .ok (.aload_n 0, 1) := by decide +kernel
theorem dX6_storesByte_97 : decode cX6_storesByte 97 = .ok (.iload 7, 2) := by decide +kernel
theorem dX6_storesByte_99 : decode cX6_storesByte 99 = .ok (.invokevirtual 38, 3) := by decide +kernel
theorem dX6_storesByte_102 : decode cX6_storesByte 102 = .ok (.ifCond .eq 16, 3) := by decide +kernel
theorem dX6_storesByte_105 : decode cX6_storesByte 105 = .ok (.aload_n 0, 1) := by decide +kernel
theorem dX6_storesByte_106 : decode cX6_storesByte 106 = .ok (.iload 8, 2) := by decide +kernel
theorem dX6_storesByte_108 : decode cX6_storesByte 108 = .ok (.iload 10, 2) := by decide +kernel
theorem dX6_storesByte_110 : decode cX6_storesByte 110 = .ok (.iload 7, 2) := by decide +kernel
theorem dX6_storesByte_112 : decode cX6_storesByte 112 = .ok (.invokevirtual 65, 3) := by decide +kernel
theorem dX6_storesByte_115 : decode cX6_storesByte 115 = .ok (.goto 12, 3) := by decide +kernel
theorem dX6_storesByte_118 : decode cX6_storesByte 118 = .ok (.aload_n 0, 1) := by decide +kernel
theorem dX6_storesByte_119 : decode cX6_storesByte 119 = .ok (.getfield 7, 3) := by decide +kernel
theorem dX6_storesByte_122 : decode cX6_storesByte 122 = .ok (.iload 8, 2) := by decide +kernel
theorem dX6_storesByte_124 : decode cX6_storesByte 124 = .ok (.iload 10, 2) := by decide +kernel
theorem dX6_storesByte_126 : decode cX6_storesByte 126 = .ok (.iastore, 1) := by decide +kernel
theorem dX6_storesByte_127 : decode cX6_storesByte 127 = .ok (.aload_n 0, 1) := by decide +kernel
theorem dX6_storesByte_128 : decode cX6_storesByte 128 = .ok (.iload_n 1, 1) := by decide +kernel
theorem dX6_storesByte_129 : decode cX6_storesByte 129 = .ok (.iload 4, 2) := by decide +kernel
theorem dX6_storesByte_131 : decode cX6_storesByte 131 = .ok (.invokevirtual 69, 3) := by decide +kernel
theorem dX6_storesByte_134 : decode cX6_storesByte 134 = .ok (.aload_n 0, 1) := by decide +kernel
theorem dX6_storesByte_135 : decode cX6_storesByte 135 = .ok (.iload 8, 2) := by decide +kernel
theorem dX6_storesByte_137 : decode cX6_storesByte 137 = .ok (.invokevirtual 38, 3) := by decide +kernel
theorem dX6_storesByte_140 : decode cX6_storesByte 140 = .ok (.ifCond .eq 12, 3) := by decide +kernel
theorem dX6_storesByte_143 : decode cX6_storesByte 143 = .ok (.iload 6, 2) := by decide +kernel
theorem dX6_storesByte_145 : decode cX6_storesByte 145 = .ok (.ifCond .lt 7, 3) := by decide +kernel
theorem dX6_storesByte_148 : decode cX6_storesByte 148 = .ok (.iconst 1, 1) := by decide +kernel
theorem dX6_storesByte_149 : decode cX6_storesByte 149 = .ok (.goto 4, 3) := by decide +kernel
theorem dX6_storesByte_152 : decode cX6_storesByte 152 = .ok (.iconst 0, 1) := by decide +kernel
theorem dX6_storesByte_153 : decode cX6_storesByte 153 = .ok (.ireturn, 1) := by decide +kernel
set_option maxRecDepth 20000 in
theorem ggX6_moves_X6_isStopped : GoodIn wsX6_moves wsX6_isStopped := goodIn_r _ [6, 1, 21, 22, 23, 24, 25, 26, 27, 28] (by decide +kernel) (by decide +kernel)
set_option maxRecDepth 20000 in
theorem gX6_moves_X6_isStopped : GoodIn wsX6_moves (wsV RX6 59 RX6 yX6_isStopped wsX6_isStopped) := goodIn_app (goodIn_of _ (by decide +kernel)) ggX6_moves_X6_isStopped
set_option maxRecDepth 20000 in
theorem ggX6_moves_X6_registerAt : GoodIn wsX6_moves wsX6_registerAt := goodIn_r _ [9] (by decide +kernel) (by decide +kernel)
set_option maxRecDepth 20000 in
theorem gX6_moves_X6_registerAt : GoodIn wsX6_moves (va_wsS RX6 52 yX6_registerAt wsX6_registerAt) := goodIn_app (goodIn_of _ (by decide +kernel)) ggX6_moves_X6_registerAt
set_option maxRecDepth 20000 in
theorem ggX6_moves_X6_gets : GoodIn wsX6_moves wsX6_gets := goodIn_r _ [13, 1, 14, 15, 5, 16, 17, 18, 19, 20, 21, 22, 23, 24, 25, 26, 27, 28] (by decide +kernel) (by decide +kernel)
set_option maxRecDepth 20000 in
theorem gX6_moves_X6_gets : GoodIn wsX6_moves (wsV RX6 65 RX6 yX6_gets wsX6_gets) := goodIn_app (goodIn_of _ (by decide +kernel)) ggX6_moves_X6_gets
theorem dX6_moves_0 : decode cX6_moves 0 = .ok (.aload_n 0, 1) := by decide +kernel
theorem dX6_moves_1 : decode cX6_moves 1 = .ok (.iload_n 1, 1) := by decide +kernel
theorem dX6_moves_2 : decode cX6_moves 2 = .ok (.iload_n 2, 1) := by decide +kernel
theorem dX6_moves_3 : decode cX6_moves 3 = .ok (.invokevirtual 59, 3) := by decide +kernel
theorem dX6_moves_6 : decode cX6_moves 6 = .ok (.ifCond .eq 6, 3) := by decide +kernel
theorem dX6_moves_9 : decode cX6_moves 9 = .ok (.bipush (-5), 2) := by decide +kernel
theorem dX6_moves_11 : decode cX6_moves 11 = .ok (.ireturn, 1) := by decide +kernel
theorem dX6_moves_12 : decode cX6_moves 12 = .ok (.iload_n 1, 1) := by decide +kernel
theorem dX6_moves_13 : decode cX6_moves 13 = .ok (.iload_n 2, 1) := by decide +kernel
theorem dX6_moves_14 : decode cX6_moves 14 = .ok (.iload 4, 2) := by decide +kernel
theorem dX6_moves_16 : decode cX6_moves 16 = .ok (.invokestatic 52, 3) := by decide +kernel
theorem dX6_moves_19 : decode cX6_moves 19 = .ok (.istore 5, 2) := by decide +kernel
theorem dX6_moves_21 : decode cX6_moves 21 = .ok (.aload_n 0, 1) := by decide +kernel
theorem dX6_moves_22 : decode cX6_moves 22 = .ok (.getfield 7, 3) := by decide +kernel
theorem dX6_moves_25 : decode cX6_moves 25 = .ok (.iload 5, 2) := by decide +kernel
theorem dX6_moves_27 : decode cX6_moves 27 = .ok (.iaload, 1) := by decide +kernel
theorem dX6_moves_28 : decode cX6_moves 28 = .ok (.istore 6, 2) := by decide +kernel
theorem dX6_moves_30 : decode cX6_moves 30 = .ok (.aload_n 0, 1) := by decide +kernel
theorem dX6_moves_31 : decode cX6_moves 31 = .ok (.iload_n 1, 1) := by decide +kernel
theorem dX6_moves_32 : decode cX6_moves 32 = .ok (.iload_n 2, 1) := by decide +kernel
theorem dX6_moves_33 : decode cX6_moves 33 = .ok (.iload_n 3, 1) := by decide +kernel
theorem dX6_moves_34 : decode cX6_moves 34 = .ok (.invokestatic 52, 3) := by decide +kernel
theorem dX6_moves_37 : decode cX6_moves 37 = .ok (.iload 6, 2) := by decide +kernel
theorem dX6_moves_39 : decode cX6_moves 39 = .ok (.iload 5, 2) := by decide +kernel
theorem dX6_moves_41 : decode cX6_moves 41 = .ok (.invokevirtual 65, 3) := by decide +kernel
theorem dX6_moves_44 : decode cX6_moves 44 = .ok (.iload 6, 2) := by decide +kernel
theorem dX6_moves_46 : decode cX6_moves 46 = .ok (.ireturn, 1) := by decide +kernel
theorem dX6_result_0 : decode cX6_result 0 = .ok (.iload_n 0, 1) := by decide +kernel
theorem dX6_result_1 : decode cX6_result 1 = .ok (.ifCond .ne 9, 3) := by decide +kernel
theorem dX6_result_4 : decode cX6_result 4 = .ok (.iload_n 1, 1) := by decide +kernel
theorem dX6_result_5 : decode cX6_result 5 = .ok (.iload_n 2, 1) := by decide +kernel
theorem dX6_result_6 : decode cX6_result 6 = .ok (.iadd, 1) := by decide +kernel
theorem dX6_result_7 : decode cX6_result 7 = .ok (.goto 26, 3) := by decide +kernel
theorem dX6_result_10 : decode cX6_result 10 = .ok (.iload_n 0, 1) := by decide +kernel
theorem dX6_result_11 : decode cX6_result 11 = .ok (.iconst 1, 1) := by decide +kernel
theorem dX6_result_12 : decode cX6_result 12 = .ok (.if_icmp .ne 9, 3) := by decide +kernel
theorem dX6_result_15 : decode cX6_result 15 = .ok (.iload_n 1, 1) := by decide +kernel
theorem dX6_result_16 : decode cX6_result 16 = .ok (.iload_n 2, 1) := by decide +kernel
theorem dX6_result_17 : decode cX6_result 17 = .ok (.isub, 1) := by decide +kernel
theorem dX6_result_18 : decode cX6_result 18 = .ok (.goto 15, 3) := by decide +kernel
theorem dX6_result_21 : decode cX6_result 21 = .ok (.iload_n 0, 1) := by decide +kernel
theorem dX6_result_22 : decode cX6_result 22 = .ok (.iconst 2, 1) := by decide +kernel
theorem dX6_result_23 : decode cX6_result 23 = .ok (.if_icmp .ne 9, 3) := by decide +kernel
theorem dX6_result_26 : decode cX6_result 26 = .ok (.iload_n 1, 1) := by decide +kernel
theorem dX6_result_27 : decode cX6_result 27 = .ok (.iload_n 2, 1) := by decide +kernel
theorem dX6_result_28 : decode cX6_result 28 = .ok (.ixor, 1) := by decide +kernel
theorem dX6_result_29 : decode cX6_result 29 = .ok (.goto 4, 3) := by decide +kernel
theorem dX6_result_32 : decode cX6_result 32 = .ok (.iconst 0, 1) := by decide +kernel
theorem dX6_result_33 : decode cX6_result 33 = .ok (.istore_n 3, 1) := by decide +kernel
theorem dX6_result_34 : decode cX6_result 34 = .ok (.iload_n 0, 1) := by decide +kernel
theorem dX6_result_35 : decode cX6_result 35 = .ok (.iconst 3, 1) := by decide +kernel
theorem dX6_result_36 : decode cX6_result 36 = .ok (.if_icmp .ne 11, 3) := by decide +kernel
theorem dX6_result_39 : decode cX6_result 39 = .ok (.iload_n 1, 1) := by decide +kernel
theorem dX6_result_40 : decode cX6_result 40 = .ok (.i2l, 1) := by decide +kernel
theorem dX6_result_41 : decode cX6_result 41 = .ok (.iload_n 2, 1) := by decide +kernel
theorem dX6_result_42 : decode cX6_result 42 = .ok (.i2l, 1) := by decide +kernel
theorem dX6_result_43 : decode cX6_result 43 = .ok (.lmul, 1) := by decide +kernel
theorem dX6_result_44 : decode cX6_result 44 = .ok (.goto 5, 3) := by decide +kernel
theorem dX6_result_47 : decode cX6_result 47 = .ok (.iload_n 3, 1) := by decide +kernel
theorem dX6_result_48 : decode cX6_result 48 = .ok (.i2l, 1) := by decide +kernel
theorem dX6_result_49 : decode cX6_result 49 = .ok (.lstore 4, 2) := by decide +kernel
theorem dX6_result_51 : decode cX6_result 51 = .ok (.lload 4, 2) := by decide +kernel
theorem dX6_result_53 : decode cX6_result 53 = .ok (.ldc2_w 73, 3) := by decide +kernel
theorem dX6_result_56 : decode cX6_result 56 = .ok (.land, 1) := by decide +kernel
theorem dX6_result_57 : decode cX6_result 57 = .ok (.l2i, 1) := by decide +kernel
theorem dX6_result_58 : decode cX6_result 58 = .ok (.ireturn, 1) := by decide +kernel
set_option maxRecDepth 20000 in
theorem ggX6_computes_X6_isStopped : GoodIn wsX6_computes wsX6_isStopped := goodIn_r _ [6, 1, 30, 31, 32, 33, 34, 35, 36, 37] (by decide +kernel) (by decide +kernel)
set_option maxRecDepth 20000 in
theorem gX6_computes_X6_isStopped : GoodIn wsX6_computes (wsV RX6 59 RX6 yX6_isStopped wsX6_isStopped) := goodIn_app (goodIn_of _ (by decide +kernel)) ggX6_computes_X6_isStopped
set_option maxRecDepth 20000 in
theorem ggX6_computes_X6_uses : GoodIn wsX6_computes wsX6_uses := goodIn_r _ [10, 11, 12, 5, 13, 14, 15, 16, 17, 1, 18, 19, 20, 21, 22, 23, 24, 25, 30, 31, 32, 33, 34, 35, 36, 37] (by decide +kernel) (by decide +kernel)
set_option maxRecDepth 20000 in
theorem gX6_computes_X6_uses : GoodIn wsX6_computes (wsV RX6 75 RX6 yX6_uses wsX6_uses) := goodIn_app (goodIn_of _ (by decide +kernel)) ggX6_computes_X6_uses
set_option maxRecDepth 20000 in
theorem ggX6_computes_X6_registerAt : GoodIn wsX6_computes wsX6_registerAt := goodIn_r _ [13] (by decide +kernel) (by decide +kernel)
set_option maxRecDepth 20000 in
theorem gX6_computes_X6_registerAt : GoodIn wsX6_computes (va_wsS RX6 52 yX6_registerAt wsX6_registerAt) := goodIn_app (goodIn_of _ (by decide +kernel)) ggX6_computes_X6_registerAt
set_option maxRecDepth 20000 in
theorem ggX6_computes_X6_result : GoodIn wsX6_computes wsX6_result := goodIn_r _ [28, 29] (by decide +kernel) (by decide +kernel)
set_option maxRecDepth 20000 in
theorem gX6_computes_X6_result : GoodIn wsX6_computes (va_wsS RX6 79 yX6_result wsX6_result) := goodIn_app (goodIn_of _ (by decide +kernel)) ggX6_computes_X6_result
set_option maxRecDepth 20000 in
theorem ggX6_computes_X6_lays : GoodIn wsX6_computes wsX6_lays := goodIn_r _ [25, 1, 30, 31, 32, 33, 34, 35, 36, 37] (by decide +kernel) (by decide +kernel)
set_option maxRecDepth 20000 in
theorem gX6_computes_X6_lays : GoodIn wsX6_computes (wsV RX6 30 RX6 yX6_lays wsX6_lays) := goodIn_app (goodIn_of _ (by decide +kernel)) ggX6_computes_X6_lays
theorem dX6_computes_0 : decode cX6_computes 0 = .ok (.aload_n 0, 1) := by decide +kernel
theorem dX6_computes_1 : decode cX6_computes 1 = .ok (.iload_n 1, 1) := by decide +kernel
theorem dX6_computes_2 : decode cX6_computes 2 = .ok (.iload_n 2, 1) := by decide +kernel
theorem dX6_computes_3 : decode cX6_computes 3 = .ok (.invokevirtual 59, 3) := by decide +kernel
theorem dX6_computes_6 : decode cX6_computes 6 = .ok (.ifCond .eq 6, 3) := by decide +kernel
theorem dX6_computes_9 : decode cX6_computes 9 = .ok (.bipush (-5), 2) := by decide +kernel
theorem dX6_computes_11 : decode cX6_computes 11 = .ok (.ireturn, 1) := by decide +kernel
theorem dX6_computes_12 : decode cX6_computes 12 = .ok (.iload_n 3, 1) := by decide +kernel
theorem dX6_computes_13 : decode cX6_computes 13 = .ok (.iconst 2, 1) := by decide +kernel
theorem dX6_computes_14 : decode cX6_computes 14 = .ok (.if_icmp .ne 14, 3) := by decide +kernel
theorem dX6_computes_17 : decode cX6_computes 17 = .ok (.iload 5, 2) := by decide +kernel
theorem dX6_computes_19 : decode cX6_computes 19 = .ok (.iload 6, 2) := by decide +kernel
theorem dX6_computes_21 : decode cX6_computes 21 = .ok (.if_icmp .ne 7, 3) := by decide +kernel
theorem dX6_computes_24 : decode cX6_computes 24 = .ok (.iconst 1, 1) := by decide +kernel
theorem dX6_computes_25 : decode cX6_computes 25 = .ok (.goto 4, 3) := by decide +kernel
theorem dX6_computes_28 : decode cX6_computes 28 = .ok (.iconst 0, 1) := by decide +kernel
theorem dX6_computes_29 : decode cX6_computes 29 = .ok (.istore 7, 2) := by decide +kernel
theorem dX6_computes_31 : decode cX6_computes 31 = .ok (.iload 7, 2) := by decide +kernel
theorem dX6_computes_33 : decode cX6_computes 33 = .ok (.ifCond .ne 19, 3) := by decide +kernel
theorem dX6_computes_36 : decode cX6_computes 36 = .ok (.aload_n 0, 1) := by decide +kernel
theorem dX6_computes_37 : decode cX6_computes 37 = .ok (.iload_n 1, 1) := by decide +kernel
theorem dX6_computes_38 : decode cX6_computes 38 = .ok (.iload_n 2, 1) := by decide +kernel
theorem dX6_computes_39 : decode cX6_computes 39 = .ok (.iload 5, 2) := by decide +kernel
theorem dX6_computes_41 : decode cX6_computes 41 = .ok (.iload 6, 2) := by decide +kernel
theorem dX6_computes_43 : decode cX6_computes 43 = .ok (.invokevirtual 75, 3) := by decide +kernel
theorem dX6_computes_46 : decode cX6_computes 46 = .ok (.ifCond .ne 6, 3) := by decide +kernel
theorem dX6_computes_49 : decode cX6_computes 49 = .ok (.bipush (-7), 2) := by decide +kernel
theorem dX6_computes_51 : decode cX6_computes 51 = .ok (.ireturn, 1) := by decide +kernel
theorem dX6_computes_52 : decode cX6_computes 52 = .ok (.iload 7, 2) := by decide +kernel
theorem dX6_computes_54 : decode cX6_computes 54 = .ok (.ifCond .eq 7, 3) := by decide +kernel
theorem dX6_computes_57 : decode cX6_computes 57 = .ok (.iconst 0, 1) := by decide +kernel
theorem dX6_computes_58 : decode cX6_computes 58 = .ok (.goto 31, 3) := by decide +kernel
theorem dX6_computes_61 : decode cX6_computes 61 = .ok (.iload_n 3, 1) := by decide +kernel
theorem dX6_computes_62 : decode cX6_computes 62 = .ok (.aload_n 0, 1) := by decide +kernel
theorem dX6_computes_63 : decode cX6_computes 63 = .ok (.getfield 7, 3) := by decide +kernel
theorem dX6_computes_66 : decode cX6_computes 66 = .ok (.iload_n 1, 1) := by decide +kernel
theorem dX6_computes_67 : decode cX6_computes 67 = .ok (.iload_n 2, 1) := by decide +kernel
theorem dX6_computes_68 : decode cX6_computes 68 = .ok (.iload 5, 2) := by decide +kernel
theorem dX6_computes_70 : decode cX6_computes 70 = .ok (.invokestatic 52, 3) := by decide +kernel
theorem dX6_computes_73 : decode cX6_computes 73 = .ok (.iaload, 1) := by decide +kernel
theorem dX6_computes_74 : decode cX6_computes 74 = .ok (.aload_n 0, 1) := by decide +kernel
theorem dX6_computes_75 : decode cX6_computes 75 = .ok (.getfield 7, 3) := by decide +kernel
theorem dX6_computes_78 : decode cX6_computes 78 = .ok (.iload_n 1, 1) := by decide +kernel
theorem dX6_computes_79 : decode cX6_computes 79 = .ok (.iload_n 2, 1) := by decide +kernel
theorem dX6_computes_80 : decode cX6_computes 80 = .ok (.iload 6, 2) := by decide +kernel
theorem dX6_computes_82 : decode cX6_computes 82 = .ok (.invokestatic 52, 3) := by decide +kernel
theorem dX6_computes_85 : decode cX6_computes 85 = .ok (.iaload, 1) := by decide +kernel
theorem dX6_computes_86 : decode cX6_computes 86 = .ok (.invokestatic 79, 3) := by decide +kernel
theorem dX6_computes_89 : decode cX6_computes 89 = .ok (.istore 8, 2) := by decide +kernel
theorem dX6_computes_91 : decode cX6_computes 91 = .ok (.aload_n 0, 1) := by decide +kernel
theorem dX6_computes_92 : decode cX6_computes 92 = .ok (.iload_n 1, 1) := by decide +kernel
theorem dX6_computes_93 : decode cX6_computes 93 = .ok (.iload_n 2, 1) := by decide +kernel
theorem dX6_computes_94 : decode cX6_computes 94 = .ok (.iload 4, 2) := by decide +kernel
theorem dX6_computes_96 : decode cX6_computes 96 = .ok (.invokestatic 52, 3) := by decide +kernel
theorem dX6_computes_99 : decode cX6_computes 99 = .ok (.iload 8, 2) := by decide +kernel
theorem dX6_computes_101 : decode cX6_computes 101 = .ok (.bipush (-6), 2) := by decide +kernel
theorem dX6_computes_103 : decode cX6_computes 103 = .ok (.iconst 0, 1) := by decide +kernel
theorem dX6_computes_104 : decode cX6_computes 104 = .ok (.invokevirtual 30, 3) := by decide +kernel
theorem dX6_computes_107 : decode cX6_computes 107 = .ok (.iload 8, 2) := by decide +kernel
theorem dX6_computes_109 : decode cX6_computes 109 = .ok (.ireturn, 1) := by decide +kernel
set_option maxRecDepth 20000 in
theorem ggX6_loadsAt_X6_isStopped : GoodIn wsX6_loadsAt wsX6_isStopped := goodIn_r _ [6, 1, 55, 56, 57, 58, 59, 60, 61, 62] (by decide +kernel) (by decide +kernel)
set_option maxRecDepth 20000 in
theorem gX6_loadsAt_X6_isStopped : GoodIn wsX6_loadsAt (wsV RX6 59 RX6 yX6_isStopped wsX6_isStopped) := goodIn_app (goodIn_of _ (by decide +kernel)) ggX6_loadsAt_X6_isStopped
set_option maxRecDepth 20000 in
theorem ggX6_loadsAt_X6_uses : GoodIn wsX6_loadsAt wsX6_uses := goodIn_r _ [10, 11, 12, 5, 13, 14, 15, 16, 17, 1, 18, 19, 20, 21, 22, 23, 24, 25, 55, 56, 57, 58, 59, 60, 61, 62] (by decide +kernel) (by decide +kernel)
set_option maxRecDepth 20000 in
theorem gX6_loadsAt_X6_uses : GoodIn wsX6_loadsAt (wsV RX6 75 RX6 yX6_uses wsX6_uses) := goodIn_app (goodIn_of _ (by decide +kernel)) ggX6_loadsAt_X6_uses
set_option maxRecDepth 20000 in
theorem ggX6_loadsAt_X6_registerAt : GoodIn wsX6_loadsAt wsX6_registerAt := goodIn_r _ [13] (by decide +kernel) (by decide +kernel)
set_option maxRecDepth 20000 in
theorem gX6_loadsAt_X6_registerAt : GoodIn wsX6_loadsAt (va_wsS RX6 52 yX6_registerAt wsX6_registerAt) := goodIn_app (goodIn_of _ (by decide +kernel)) ggX6_loadsAt_X6_registerAt
set_option maxRecDepth 20000 in
theorem ggX6_loadsAt_X6_loads : GoodIn wsX6_loadsAt wsX6_loads := goodIn_r _ [29, 1, 2, 3, 4, 5, 6, 30, 31, 32, 33, 34, 35, 36, 37, 38, 39, 40, 14, 15, 16, 17, 41, 42, 43, 44, 45, 46, 47, 22, 23, 24, 25, 11, 12, 13, 48, 49, 50, 51, 52, 53, 54, 55, 56, 57, 58, 59, 60, 61, 62] (by decide +kernel) (by decide +kernel)
set_option maxRecDepth 20000 in
theorem gX6_loadsAt_X6_loads : GoodIn wsX6_loadsAt (wsV RX6 82 RX6 yX6_loads wsX6_loads) := goodIn_app (goodIn_of _ (by decide +kernel)) ggX6_loadsAt_X6_loads
theorem dX6_loadsAt_0 : decode cX6_loadsAt 0 = .ok (.aload_n 0, 1) := by decide +kernel
theorem dX6_loadsAt_1 : decode cX6_loadsAt 1 = .ok (.iload_n 1, 1) := by decide +kernel
theorem dX6_loadsAt_2 : decode cX6_loadsAt 2 = .ok (.iload_n 2, 1) := by decide +kernel
theorem dX6_loadsAt_3 : decode cX6_loadsAt 3 = .ok (.invokevirtual 59, 3) := by decide +kernel
theorem dX6_loadsAt_6 : decode cX6_loadsAt 6 = .ok (.ifCond .eq 6, 3) := by decide +kernel
theorem dX6_loadsAt_9 : decode cX6_loadsAt 9 = .ok (.bipush (-5), 2) := by decide +kernel
theorem dX6_loadsAt_11 : decode cX6_loadsAt 11 = .ok (.ireturn, 1) := by decide +kernel
theorem dX6_loadsAt_12 : decode cX6_loadsAt 12 = .ok (.aload_n 0, 1) := by decide +kernel
theorem dX6_loadsAt_13 : decode cX6_loadsAt 13 = .ok (.iload_n 1, 1) := by decide +kernel
theorem dX6_loadsAt_14 : decode cX6_loadsAt 14 = .ok (.iload_n 2, 1) := by decide +kernel
theorem dX6_loadsAt_15 : decode cX6_loadsAt 15 = .ok (.iload 4, 2) := by decide +kernel
theorem dX6_loadsAt_17 : decode cX6_loadsAt 17 = .ok (.iload 4, 2) := by decide +kernel
theorem dX6_loadsAt_19 : decode cX6_loadsAt 19 = .ok (.invokevirtual 75, 3) := by decide +kernel
theorem dX6_loadsAt_22 : decode cX6_loadsAt 22 = .ok (.ifCond .eq 29, 3) := by decide +kernel
theorem dX6_loadsAt_25 : decode cX6_loadsAt 25 = .ok (.aload_n 0, 1) := by decide +kernel
theorem dX6_loadsAt_26 : decode cX6_loadsAt 26 = .ok (.iload_n 1, 1) := by decide +kernel
theorem dX6_loadsAt_27 : decode cX6_loadsAt 27 = .ok (.iload_n 2, 1) := by decide +kernel
theorem dX6_loadsAt_28 : decode cX6_loadsAt 28 = .ok (.iload_n 3, 1) := by decide +kernel
theorem dX6_loadsAt_29 : decode cX6_loadsAt 29 = .ok (.aload_n 0, 1) := by decide +kernel
theorem dX6_loadsAt_30 : decode cX6_loadsAt 30 = .ok (.getfield 7, 3) := by decide +kernel
theorem dX6_loadsAt_33 : decode cX6_loadsAt 33 = .ok (.iload_n 1, 1) := by decide +kernel
theorem dX6_loadsAt_34 : decode cX6_loadsAt 34 = .ok (.iload_n 2, 1) := by decide +kernel
theorem dX6_loadsAt_35 : decode cX6_loadsAt 35 = .ok (.iload 4, 2) := by decide +kernel
theorem dX6_loadsAt_37 : decode cX6_loadsAt 37 = .ok (.invokestatic 52, 3) := by decide +kernel
theorem dX6_loadsAt_40 : decode cX6_loadsAt 40 = .ok (.iaload, 1) := by decide +kernel
theorem dX6_loadsAt_41 : decode cX6_loadsAt 41 = .ok (.bipush 32, 2) := by decide +kernel
theorem dX6_loadsAt_43 : decode cX6_loadsAt 43 = .ok (.irem, 1) := by decide +kernel
theorem dX6_loadsAt_44 : decode cX6_loadsAt 44 = .ok (.iconst 2, 1) := by decide +kernel
theorem dX6_loadsAt_45 : decode cX6_loadsAt 45 = .ok (.invokevirtual 82, 3) := by decide +kernel
theorem dX6_loadsAt_48 : decode cX6_loadsAt 48 = .ok (.goto 5, 3) := by decide +kernel
theorem dX6_loadsAt_51 : decode cX6_loadsAt 51 = .ok (.bipush (-7), 2) := by decide +kernel
theorem dX6_loadsAt_53 : decode cX6_loadsAt 53 = .ok (.ireturn, 1) := by decide +kernel
set_option maxRecDepth 20000 in
theorem ggX6_outputs_X6_isStopped : GoodIn wsX6_outputs wsX6_isStopped := goodIn_r _ [6, 1, 26, 27, 28, 29, 30, 31, 32, 33] (by decide +kernel) (by decide +kernel)
set_option maxRecDepth 20000 in
theorem gX6_outputs_X6_isStopped : GoodIn wsX6_outputs (wsV RX6 59 RX6 yX6_isStopped wsX6_isStopped) := goodIn_app (goodIn_of _ (by decide +kernel)) ggX6_outputs_X6_isStopped
set_option maxRecDepth 20000 in
theorem ggX6_outputs_X6_uses : GoodIn wsX6_outputs wsX6_uses := goodIn_r _ [10, 11, 12, 5, 13, 14, 15, 16, 17, 1, 18, 19, 20, 21, 22, 23, 24, 25, 26, 27, 28, 29, 30, 31, 32, 33] (by decide +kernel) (by decide +kernel)
set_option maxRecDepth 20000 in
theorem gX6_outputs_X6_uses : GoodIn wsX6_outputs (wsV RX6 75 RX6 yX6_uses wsX6_uses) := goodIn_app (goodIn_of _ (by decide +kernel)) ggX6_outputs_X6_uses
set_option maxRecDepth 20000 in
theorem ggX6_outputs_X6_registerAt : GoodIn wsX6_outputs wsX6_registerAt := goodIn_r _ [13] (by decide +kernel) (by decide +kernel)
set_option maxRecDepth 20000 in
theorem gX6_outputs_X6_registerAt : GoodIn wsX6_outputs (va_wsS RX6 52 yX6_registerAt wsX6_registerAt) := goodIn_app (goodIn_of _ (by decide +kernel)) ggX6_outputs_X6_registerAt
theorem dX6_outputs_0 : decode cX6_outputs 0 = .ok (.aload_n 0, 1) := by decide +kernel
theorem dX6_outputs_1 : decode cX6_outputs 1 = .ok (.iload_n 1, 1) := by decide +kernel
theorem dX6_outputs_2 : decode cX6_outputs 2 = .ok (.iload_n 2, 1) := by decide +kernel
theorem dX6_outputs_3 : decode cX6_outputs 3 = .ok (.invokevirtual 59, 3) := by decide +kernel
theorem dX6_outputs_6 : decode cX6_outputs 6 = .ok (.ifCond .eq 6, 3) := by decide +kernel
theorem dX6_outputs_9 : decode cX6_outputs 9 = .ok (.bipush (-5), 2) := by decide +kernel
theorem dX6_outputs_11 : decode cX6_outputs 11 = .ok (.ireturn, 1) := by decide +kernel
theorem dX6_outputs_12 : decode cX6_outputs 12 = .ok (.aload_n 0, 1) := by decide +kernel
theorem dX6_outputs_13 : decode cX6_outputs 13 = .ok (.iload_n 1, 1) := by decide +kernel
theorem dX6_outputs_14 : decode cX6_outputs 14 = .ok (.iload_n 2, 1) := by decide +kernel
theorem dX6_outputs_15 : decode cX6_outputs 15 = .ok (.iload_n 3, 1) := by decide +kernel
theorem dX6_outputs_16 : decode cX6_outputs 16 = .ok (.iload_n 3, 1) := by decide +kernel
theorem dX6_outputs_17 : decode cX6_outputs 17 = .ok (.invokevirtual 75, 3) := by decide +kernel
theorem dX6_outputs_20 : decode cX6_outputs 20 = .ok (.ifCond .eq 17, 3) := by decide +kernel
theorem dX6_outputs_23 : decode cX6_outputs 23 = .ok (.aload_n 0, 1) := by decide +kernel
theorem dX6_outputs_24 : decode cX6_outputs 24 = .ok (.getfield 7, 3) := by decide +kernel
theorem dX6_outputs_27 : decode cX6_outputs 27 = .ok (.iload_n 1, 1) := by decide +kernel
theorem dX6_outputs_28 : decode cX6_outputs 28 = .ok (.iload_n 2, 1) := by decide +kernel
theorem dX6_outputs_29 : decode cX6_outputs 29 = .ok (.iload_n 3, 1) := by decide +kernel
theorem dX6_outputs_30 : decode cX6_outputs 30 = .ok (.invokestatic 52, 3) := by decide +kernel
theorem dX6_outputs_33 : decode cX6_outputs 33 = .ok (.iaload, 1) := by decide +kernel
theorem dX6_outputs_34 : decode cX6_outputs 34 = .ok (.goto 5, 3) := by decide +kernel
theorem dX6_outputs_37 : decode cX6_outputs 37 = .ok (.bipush (-7), 2) := by decide +kernel
theorem dX6_outputs_39 : decode cX6_outputs 39 = .ok (.ireturn, 1) := by decide +kernel
theorem dX6_copies_0 : decode cX6_copies 0 = .ok (.iconst 0, 1) := by decide +kernel
theorem dX6_copies_1 : decode cX6_copies 1 = .ok (.istore_n 3, 1) := by decide +kernel
theorem dX6_copies_2 : decode cX6_copies 2 = .ok (.iload_n 3, 1) := by decide +kernel
theorem dX6_copies_3 : decode cX6_copies 3 = .ok (.sipush 312, 3) := by decide +kernel
theorem dX6_copies_6 : decode cX6_copies 6 = .ok (.if_icmp .ge 33, 3) := by decide +kernel
theorem dX6_copies_9 : decode cX6_copies 9 = .ok (.aload_n 0, 1) := by decide +kernel
theorem dX6_copies_10 : decode cX6_copies 10 = .ok (.getfield 7, 3) := by decide +kernel
theorem dX6_copies_13 : decode cX6_copies 13 = .ok (.sipush 312, 3) := by decide +kernel
theorem dX6_copies_16 : decode cX6_copies 16 = .ok (.iload_n 2, 1) := by decide +kernel
theorem dX6_copies_17 : decode cX6_copies 17 = .ok (.imul, 1) := by decide +kernel
theorem dX6_copies_18 : decode cX6_copies 18 = .ok (.iload_n 3, 1) := by decide +kernel
theorem dX6_copies_19 : decode cX6_copies 19 = .ok (.iadd, 1) := by decide +kernel
theorem dX6_copies_20 : decode cX6_copies 20 = .ok (.aload_n 0, 1) := by decide +kernel
theorem dX6_copies_21 : decode cX6_copies 21 = .ok (.getfield 7, 3) := by decide +kernel
theorem dX6_copies_24 : decode cX6_copies 24 = .ok (.sipush 312, 3) := by decide +kernel
theorem dX6_copies_27 : decode cX6_copies 27 = .ok (.iload_n 1, 1) := by decide +kernel
theorem dX6_copies_28 : decode cX6_copies 28 = .ok (.imul, 1) := by decide +kernel
theorem dX6_copies_29 : decode cX6_copies 29 = .ok (.iload_n 3, 1) := by decide +kernel
theorem dX6_copies_30 : decode cX6_copies 30 = .ok (.iadd, 1) := by decide +kernel
theorem dX6_copies_31 : decode cX6_copies 31 = .ok (.iaload, 1) := by decide +kernel
theorem dX6_copies_32 : decode cX6_copies 32 = .ok (.iastore, 1) := by decide +kernel
theorem dX6_copies_33 : decode cX6_copies 33 = .ok (.iinc 3 1, 3) := by decide +kernel
theorem dX6_copies_36 : decode cX6_copies 36 = .ok (.goto (-34), 3) := by decide +kernel
theorem dX6_copies_39 : decode cX6_copies 39 = .ok (.return_, 1) := by decide +kernel
theorem dX6_isError_0 : decode cX6_isError 0 = .ok (.iload_n 0, 1) := by decide +kernel
theorem dX6_isError_1 : decode cX6_isError 1 = .ok (.ifCond .ge 13, 3) := by decide +kernel
theorem dX6_isError_4 : decode cX6_isError 4 = .ok (.iload_n 0, 1) := by decide +kernel
theorem dX6_isError_5 : decode cX6_isError 5 = .ok (.bipush (-6), 2) := by decide +kernel
theorem dX6_isError_7 : decode cX6_isError 7 = .ok (.if_icmp .le 7, 3) := by decide +kernel
theorem dX6_isError_10 : decode cX6_isError 10 = .ok (.iconst 1, 1) := by decide +kernel
theorem dX6_isError_11 : decode cX6_isError 11 = .ok (.goto 4, 3) := by decide +kernel
theorem dX6_isError_14 : decode cX6_isError 14 = .ok (.iconst 0, 1) := by decide +kernel
theorem dX6_isError_15 : decode cX6_isError 15 = .ok (.ireturn, 1) := by decide +kernel
set_option maxRecDepth 20000 in
theorem ggX6_accepts_X6_isError : GoodIn wsX6_accepts wsX6_isError := goodIn_r _ [5] (by decide +kernel) (by decide +kernel)
set_option maxRecDepth 20000 in
theorem gX6_accepts_X6_isError : GoodIn wsX6_accepts (va_wsS RX6 86 yX6_isError wsX6_isError) := goodIn_app (goodIn_of _ (by decide +kernel)) ggX6_accepts_X6_isError
set_option maxRecDepth 20000 in
theorem ggX6_accepts_X6_copies : GoodIn wsX6_accepts wsX6_copies := goodIn_r _ [9, 10, 11, 12, 13, 14, 15, 16, 17, 18] (by decide +kernel) (by decide +kernel)
set_option maxRecDepth 20000 in
theorem gX6_accepts_X6_copies : GoodIn wsX6_accepts (wsV RX6 93 RX6 yX6_copies wsX6_copies) := goodIn_app (goodIn_of _ (by decide +kernel)) ggX6_accepts_X6_copies
theorem dX6_accepts_0 : decode cX6_accepts 0 = .ok (.iload_n 1, 1) := by decide +kernel
theorem dX6_accepts_1 : decode cX6_accepts 1 = .ok (.invokestatic 86, 3) := by decide +kernel
theorem dX6_accepts_4 : decode cX6_accepts 4 = .ok (.ifCond .eq 5, 3) := by decide +kernel
theorem dX6_accepts_7 : decode cX6_accepts 7 = .ok (.iload_n 1, 1) := by decide +kernel
theorem dX6_accepts_8 : decode cX6_accepts 8 = .ok (.ireturn, 1) := by decide +kernel
theorem dX6_accepts_9 : decode cX6_accepts 9 = .ok (.iconst 1, 1) := by decide +kernel
theorem dX6_accepts_10 : decode cX6_accepts 10 = .ok (.istore_n 2, 1) := by decide +kernel
theorem dX6_accepts_11 : decode cX6_accepts 11 = .ok (.iload_n 2, 1) := by decide +kernel
theorem dX6_accepts_12 : decode cX6_accepts 12 = .ok (.iconst 4, 1) := by decide +kernel
theorem dX6_accepts_13 : decode cX6_accepts 13 = .ok (.if_icmp .ge 25, 3) := by decide +kernel
theorem dX6_accepts_16 : decode cX6_accepts 16 = .ok (.aload_n 0, 1) := by decide +kernel
theorem dX6_accepts_17 : decode cX6_accepts 17 = .ok (.getfield 89, 3) := by decide +kernel
theorem dX6_accepts_20 : decode cX6_accepts 20 = .ok (.iconst 4, 1) := by decide +kernel
theorem dX6_accepts_21 : decode cX6_accepts 21 = .ok (.if_icmp .ne 17, 3) := by decide +kernel
theorem dX6_accepts_24 : decode cX6_accepts 24 = .ok (.aload_n 0, 1) := by decide +kernel
theorem dX6_accepts_25 : decode cX6_accepts 25 = .ok (.iload_n 2, 1) := by decide +kernel
theorem dX6_accepts_26 : decode cX6_accepts 26 = .ok (.iconst 1, 1) := by decide +kernel
theorem dX6_accepts_27 : decode cX6_accepts 27 = .ok (.iadd, 1) := by decide +kernel
theorem dX6_accepts_28 : decode cX6_accepts 28 = .ok (.iload_n 2, 1) := by decide +kernel
theorem dX6_accepts_29 : decode cX6_accepts 29 = .ok (.invokevirtual 93, 3) := by decide +kernel
theorem dX6_accepts_32 : decode cX6_accepts 32 = .ok (.iinc 2 1, 3) := by decide +kernel
theorem dX6_accepts_35 : decode cX6_accepts 35 = .ok (.goto (-24), 3) := by decide +kernel
theorem dX6_accepts_38 : decode cX6_accepts 38 = .ok (.aload_n 0, 1) := by decide +kernel
theorem dX6_accepts_39 : decode cX6_accepts 39 = .ok (.dup, 1) := by decide +kernel
theorem dX6_accepts_40 : decode cX6_accepts 40 = .ok (.getfield 89, 3) := by decide +kernel
theorem dX6_accepts_43 : decode cX6_accepts 43 = .ok (.aload_n 0, 1) := by decide +kernel
theorem dX6_accepts_44 : decode cX6_accepts 44 = .ok (.getfield 89, 3) := by decide +kernel
theorem dX6_accepts_47 : decode cX6_accepts 47 = .ok (.iconst 4, 1) := by decide +kernel
theorem dX6_accepts_48 : decode cX6_accepts 48 = .ok (.if_icmp .ge 7, 3) := by decide +kernel
theorem dX6_accepts_51 : decode cX6_accepts 51 = .ok (.iconst 1, 1) := by decide +kernel
theorem dX6_accepts_52 : decode cX6_accepts 52 = .ok (.goto 4, 3) := by decide +kernel
theorem dX6_accepts_55 : decode cX6_accepts 55 = .ok (.iconst 0, 1) := by decide +kernel
theorem dX6_accepts_56 : decode cX6_accepts 56 = .ok (.iadd, 1) := by decide +kernel
theorem dX6_accepts_57 : decode cX6_accepts 57 = .ok (.putfield 89, 3) := by decide +kernel
theorem dX6_accepts_60 : decode cX6_accepts 60 = .ok (.aload_n 0, 1) := by decide +kernel
theorem dX6_accepts_61 : decode cX6_accepts 61 = .ok (.iconst 0, 1) := by decide +kernel
theorem dX6_accepts_62 : decode cX6_accepts 62 = .ok (.aload_n 0, 1) := by decide +kernel
theorem dX6_accepts_63 : decode cX6_accepts 63 = .ok (.getfield 89, 3) := by decide +kernel
theorem dX6_accepts_66 : decode cX6_accepts 66 = .ok (.invokevirtual 93, 3) := by decide +kernel
theorem dX6_accepts_69 : decode cX6_accepts 69 = .ok (.aload_n 0, 1) := by decide +kernel
theorem dX6_accepts_70 : decode cX6_accepts 70 = .ok (.iconst 5, 1) := by decide +kernel
theorem dX6_accepts_71 : decode cX6_accepts 71 = .ok (.iconst 0, 1) := by decide +kernel
theorem dX6_accepts_72 : decode cX6_accepts 72 = .ok (.invokevirtual 93, 3) := by decide +kernel
theorem dX6_accepts_75 : decode cX6_accepts 75 = .ok (.iload_n 1, 1) := by decide +kernel
theorem dX6_accepts_76 : decode cX6_accepts 76 = .ok (.ireturn, 1) := by decide +kernel
set_option maxRecDepth 20000 in
theorem ggX6_begins_X6_copies : GoodIn wsX6_begins wsX6_copies := goodIn_r _ [5, 6, 7, 8, 9, 10, 11, 12, 13, 14] (by decide +kernel) (by decide +kernel)
set_option maxRecDepth 20000 in
theorem gX6_begins_X6_copies : GoodIn wsX6_begins (wsV RX6 93 RX6 yX6_copies wsX6_copies) := goodIn_app (goodIn_of _ (by decide +kernel)) ggX6_begins_X6_copies
theorem dX6_begins_0 : decode cX6_begins 0 = .ok (.aload_n 0, 1) := by decide +kernel
theorem dX6_begins_1 : decode cX6_begins 1 = .ok (.iconst 0, 1) := by decide +kernel
theorem dX6_begins_2 : decode cX6_begins 2 = .ok (.iconst 5, 1) := by decide +kernel
theorem dX6_begins_3 : decode cX6_begins 3 = .ok (.invokevirtual 93, 3) := by decide +kernel
theorem dX6_begins_6 : decode cX6_begins 6 = .ok (.sipush 1560, 3) := by decide +kernel
theorem dX6_begins_9 : decode cX6_begins 9 = .ok (.ireturn, 1) := by decide +kernel
set_option maxRecDepth 20000 in
theorem ggX6_inject_X6_isWord : GoodIn wsX6_inject wsX6_isWord := goodIn_r _ [4, 5, 6, 3, 7] (by decide +kernel) (by decide +kernel)
set_option maxRecDepth 20000 in
theorem gX6_inject_X6_isWord : GoodIn wsX6_inject (va_wsS RX6 96 yX6_isWord wsX6_isWord) := goodIn_app (goodIn_of _ (by decide +kernel)) ggX6_inject_X6_isWord
set_option maxRecDepth 20000 in
theorem ggX6_inject_X6_begins : GoodIn wsX6_inject wsX6_begins := goodIn_r _ [11, 12, 13, 14, 3, 15, 16, 36, 37, 38, 39, 40, 41, 42, 43] (by decide +kernel) (by decide +kernel)
set_option maxRecDepth 20000 in
theorem gX6_inject_X6_begins : GoodIn wsX6_inject (wsV RX6 99 RX6 yX6_begins wsX6_begins) := goodIn_app (goodIn_of _ (by decide +kernel)) ggX6_inject_X6_begins
set_option maxRecDepth 20000 in
theorem ggX6_inject_X6_injects : GoodIn wsX6_inject wsX6_injects := goodIn_r _ [20, 16, 21, 22, 3, 23, 24, 25, 26, 27, 36, 37, 38, 39, 40, 41, 42, 43] (by decide +kernel) (by decide +kernel)
set_option maxRecDepth 20000 in
theorem gX6_inject_X6_injects : GoodIn wsX6_inject (wsV RX6 103 RX6 yX6_injects wsX6_injects) := goodIn_app (goodIn_of _ (by decide +kernel)) ggX6_inject_X6_injects
set_option maxRecDepth 20000 in
theorem ggX6_inject_X6_accepts : GoodIn wsX6_inject wsX6_accepts := goodIn_r _ [31, 32, 33, 34, 3, 35, 12, 13, 14, 15, 16, 36, 37, 38, 39, 40, 41, 42, 43] (by decide +kernel) (by decide +kernel)
set_option maxRecDepth 20000 in
theorem gX6_inject_X6_accepts : GoodIn wsX6_inject (wsV RX6 106 RX6 yX6_accepts wsX6_accepts) := goodIn_app (goodIn_of _ (by decide +kernel)) ggX6_inject_X6_accepts
theorem dX6_inject_0 : decode cX6_inject 0 = .ok (.iload_n 1, 1) := by decide +kernel
theorem dX6_inject_1 : decode cX6_inject 1 = .ok (.invokestatic 96, 3) := by decide +kernel
theorem dX6_inject_4 : decode cX6_inject 4 = .ok (.ifCond .eq 19, 3) := by decide +kernel
theorem dX6_inject_7 : decode cX6_inject 7 = .ok (.aload_n 0, 1) := by decide +kernel
theorem dX6_inject_8 : decode cX6_inject 8 = .ok (.aload_n 0, 1) := by decide +kernel
theorem dX6_inject_9 : decode cX6_inject 9 = .ok (.aload_n 0, 1) := by decide +kernel
theorem dX6_inject_10 : decode cX6_inject 10 = .ok (.invokevirtual 99, 3) := by decide +kernel
theorem dX6_inject_13 : decode cX6_inject 13 = .ok (.iload_n 1, 1) := by decide +kernel
theorem dX6_inject_14 : decode cX6_inject 14 = .ok (.invokevirtual 103, 3) := by decide +kernel
theorem dX6_inject_17 : decode cX6_inject 17 = .ok (.invokevirtual 106, 3) := by decide +kernel
theorem dX6_inject_20 : decode cX6_inject 20 = .ok (.goto 4, 3) := by decide +kernel
theorem dX6_inject_23 : decode cX6_inject 23 = .ok (.iconst (-1), 1) := by decide +kernel
theorem dX6_inject_24 : decode cX6_inject 24 = .ok (.ireturn, 1) := by decide +kernel
set_option maxRecDepth 20000 in
theorem ggX6_copyBlock_X6_isWord : GoodIn wsX6_copyBlock wsX6_isWord := goodIn_r _ [6, 7, 8, 5, 9] (by decide +kernel) (by decide +kernel)
set_option maxRecDepth 20000 in
theorem gX6_copyBlock_X6_isWord : GoodIn wsX6_copyBlock (va_wsS RX6 96 yX6_isWord wsX6_isWord) := goodIn_app (goodIn_of _ (by decide +kernel)) ggX6_copyBlock_X6_isWord
set_option maxRecDepth 20000 in
theorem ggX6_copyBlock_X6_in : GoodIn wsX6_copyBlock wsX6_in := goodIn_r _ [9] (by decide +kernel) (by decide +kernel)
set_option maxRecDepth 20000 in
theorem gX6_copyBlock_X6_in : GoodIn wsX6_copyBlock (va_wsS RX6 22 yX6_in wsX6_in) := goodIn_app (goodIn_of _ (by decide +kernel)) ggX6_copyBlock_X6_in
set_option maxRecDepth 20000 in
theorem ggX6_copyBlock_X6_begins : GoodIn wsX6_copyBlock wsX6_begins := goodIn_r _ [13, 14, 15, 16, 5, 17, 2, 59, 60, 61, 62, 63, 64, 65, 66] (by decide +kernel) (by decide +kernel)
set_option maxRecDepth 20000 in
theorem gX6_copyBlock_X6_begins : GoodIn wsX6_copyBlock (wsV RX6 99 RX6 yX6_begins wsX6_begins) := goodIn_app (goodIn_of _ (by decide +kernel)) ggX6_copyBlock_X6_begins
set_option maxRecDepth 20000 in
theorem ggX6_copyBlock_X6_fetches : GoodIn wsX6_copyBlock wsX6_fetches := goodIn_r _ [21, 2, 22, 23, 24, 5, 25, 26, 27, 28, 29, 30, 31, 32, 33, 34, 35, 36, 37, 38, 39, 40, 41, 42, 43, 59, 60, 61, 62, 63, 64, 65, 66] (by decide +kernel) (by decide +kernel)
set_option maxRecDepth 20000 in
theorem gX6_copyBlock_X6_fetches : GoodIn wsX6_copyBlock (wsV RX6 62 RX6 yX6_fetches wsX6_fetches) := goodIn_app (goodIn_of _ (by decide +kernel)) ggX6_copyBlock_X6_fetches
set_option maxRecDepth 20000 in
theorem ggX6_copyBlock_X6_wordAt : GoodIn wsX6_copyBlock wsX6_wordAt := goodIn_r _ [28] (by decide +kernel) (by decide +kernel)
set_option maxRecDepth 20000 in
theorem gX6_copyBlock_X6_wordAt : GoodIn wsX6_copyBlock (va_wsS RX6 34 yX6_wordAt wsX6_wordAt) := goodIn_app (goodIn_of _ (by decide +kernel)) ggX6_copyBlock_X6_wordAt
set_option maxRecDepth 20000 in
theorem ggX6_copyBlock_X6_more : GoodIn wsX6_copyBlock wsX6_more := goodIn_r _ [46] (by decide +kernel) (by decide +kernel)
set_option maxRecDepth 20000 in
theorem gX6_copyBlock_X6_more : GoodIn wsX6_copyBlock (va_wsS RX6 26 yX6_more wsX6_more) := goodIn_app (goodIn_of _ (by decide +kernel)) ggX6_copyBlock_X6_more
set_option maxRecDepth 20000 in
theorem ggX6_copyBlock_X6_lays : GoodIn wsX6_copyBlock wsX6_lays := goodIn_r _ [43, 2, 59, 60, 61, 62, 63, 64, 65, 66] (by decide +kernel) (by decide +kernel)
set_option maxRecDepth 20000 in
theorem gX6_copyBlock_X6_lays : GoodIn wsX6_copyBlock (wsV RX6 30 RX6 yX6_lays wsX6_lays) := goodIn_app (goodIn_of _ (by decide +kernel)) ggX6_copyBlock_X6_lays
set_option maxRecDepth 20000 in
theorem ggX6_copyBlock_X6_written : GoodIn wsX6_copyBlock wsX6_written := goodIn_r _ [50, 2, 26, 27, 5, 28, 33, 34, 35, 36, 37, 38, 39, 40, 41, 42, 43, 59, 60, 61, 62, 63, 64, 65, 66] (by decide +kernel) (by decide +kernel)
set_option maxRecDepth 20000 in
theorem gX6_copyBlock_X6_written : GoodIn wsX6_copyBlock (wsV RX6 69 RX6 yX6_written wsX6_written) := goodIn_app (goodIn_of _ (by decide +kernel)) ggX6_copyBlock_X6_written
set_option maxRecDepth 20000 in
theorem ggX6_copyBlock_X6_isPoisoned : GoodIn wsX6_copyBlock wsX6_isPoisoned := goodIn_r _ [32, 2, 59, 60, 61, 62, 63, 64, 65, 66] (by decide +kernel) (by decide +kernel)
set_option maxRecDepth 20000 in
theorem gX6_copyBlock_X6_isPoisoned : GoodIn wsX6_copyBlock (wsV RX6 38 RX6 yX6_isPoisoned wsX6_isPoisoned) := goodIn_app (goodIn_of _ (by decide +kernel)) ggX6_copyBlock_X6_isPoisoned
set_option maxRecDepth 20000 in
theorem ggX6_copyBlock_X6_accepts : GoodIn wsX6_copyBlock wsX6_accepts := goodIn_r _ [54, 55, 56, 57, 5, 58, 14, 15, 16, 17, 2, 59, 60, 61, 62, 63, 64, 65, 66] (by decide +kernel) (by decide +kernel)
set_option maxRecDepth 20000 in
theorem gX6_copyBlock_X6_accepts : GoodIn wsX6_copyBlock (wsV RX6 106 RX6 yX6_accepts wsX6_accepts) := goodIn_app (goodIn_of _ (by decide +kernel)) ggX6_copyBlock_X6_accepts
theorem dX6_copyBlock_0 : decode cX6_copyBlock 0 = .ok (.iload_n 1, 1) := by decide +kernel
theorem dX6_copyBlock_1 : decode cX6_copyBlock 1 = .ok (.invokestatic 96, 3) := by decide +kernel
theorem dX6_copyBlock_4 : decode cX6_copyBlock 4 = .ok (.ifCond .eq 10, 3) := by decide +kernel
theorem dX6_copyBlock_7 : decode cX6_copyBlock 7 = .ok (.iload_n 2, 1) := by decide +kernel
theorem dX6_copyBlock_8 : decode cX6_copyBlock 8 = .ok (.invokestatic 96, 3) := by decide +kernel
theorem dX6_copyBlock_11 : decode cX6_copyBlock 11 = .ok (.ifCond .ne 5, 3) := by decide +kernel
theorem dX6_copyBlock_14 : decode cX6_copyBlock 14 = .ok (.iconst (-1), 1) := by decide +kernel
theorem dX6_copyBlock_15 : decode cX6_copyBlock 15 = .ok (.ireturn, 1) := by decide +kernel
theorem dX6_copyBlock_16 : decode cX6_copyBlock 16 = .ok (.iload_n 3, 1) := by decide +kernel
theorem dX6_copyBlock_17 : decode cX6_copyBlock 17 = .ok (.iconst 1, 1) := by decide +kernel
theorem dX6_copyBlock_18 : decode cX6_copyBlock 18 = .ok (.bipush 16, 2) := by decide +kernel
theorem dX6_copyBlock_20 : decode cX6_copyBlock 20 = .ok (.invokestatic 22, 3) := by decide +kernel
theorem dX6_copyBlock_23 : decode cX6_copyBlock 23 = .ok (.ifCond .ne 6, 3) := by decide +kernel
theorem dX6_copyBlock_26 : decode cX6_copyBlock 26 = .ok (.bipush (-2), 2) := by decide +kernel
theorem dX6_copyBlock_28 : decode cX6_copyBlock 28 = .ok (.ireturn, 1) := by decide +kernel
theorem dX6_copyBlock_29 : decode cX6_copyBlock 29 = .ok (.iload_n 1, 1) := by decide +kernel
theorem dX6_copyBlock_30 : decode cX6_copyBlock 30 = .ok (.iload_n 3, 1) := by decide +kernel
theorem dX6_copyBlock_31 : decode cX6_copyBlock 31 = .ok (.iadd, 1) := by decide +kernel
theorem dX6_copyBlock_32 : decode cX6_copyBlock 32 = .ok (.bipush 32, 2) := by decide +kernel
theorem dX6_copyBlock_34 : decode cX6_copyBlock 34 = .ok (.if_icmp .gt 11, 3) := by decide +kernel
theorem dX6_copyBlock_37 : decode cX6_copyBlock 37 = .ok (.iload_n 2, 1) := by decide +kernel
theorem dX6_copyBlock_38 : decode cX6_copyBlock 38 = .ok (.iload_n 3, 1) := by decide +kernel
theorem dX6_copyBlock_39 : decode cX6_copyBlock 39 = .ok (.iadd, 1) := by decide +kernel
theorem dX6_copyBlock_40 : decode cX6_copyBlock 40 = .ok (.bipush 32, 2) := by decide +kernel
theorem dX6_copyBlock_42 : decode cX6_copyBlock 42 = .ok (.if_icmp .le 5, 3) := by decide +kernel
theorem dX6_copyBlock_45 : decode cX6_copyBlock 45 = .ok (.iconst (-1), 1) := by decide +kernel
theorem dX6_copyBlock_46 : decode cX6_copyBlock 46 = .ok (.ireturn, 1) := by decide +kernel
theorem dX6_copyBlock_47 : decode cX6_copyBlock 47 = .ok (.aload_n 0, 1) := by decide +kernel
theorem dX6_copyBlock_48 : decode cX6_copyBlock 48 = .ok (.invokevirtual 99, 3) := by decide +kernel
theorem dX6_copyBlock_51 : decode cX6_copyBlock 51 = .ok (.istore 4, 2) := by decide +kernel
theorem dX6_copyBlock_53 : decode cX6_copyBlock 53 = .ok (.iconst 0, 1) := by decide +kernel
theorem dX6_copyBlock_54 : decode cX6_copyBlock 54 = .ok (.istore 5, 2) := by decide +kernel
theorem dX6_copyBlock_56 : decode cX6_copyBlock 56 = .ok (.iload 5, 2) := by decide +kernel
theorem dX6_copyBlock_58 : decode cX6_copyBlock 58 = .ok (.iload_n 3, 1) := by decide +kernel
theorem dX6_copyBlock_59 : decode cX6_copyBlock 59 = .ok (.if_icmp .ge 64, 3) := by decide +kernel
theorem dX6_copyBlock_62 : decode cX6_copyBlock 62 = .ok (.aload_n 0, 1) := by decide +kernel
theorem dX6_copyBlock_63 : decode cX6_copyBlock 63 = .ok (.iload 4, 2) := by decide +kernel
theorem dX6_copyBlock_65 : decode cX6_copyBlock 65 = .ok (.iload_n 1, 1) := by decide +kernel
theorem dX6_copyBlock_66 : decode cX6_copyBlock 66 = .ok (.iload 5, 2) := by decide +kernel
theorem dX6_copyBlock_68 : decode cX6_copyBlock 68 = .ok (.iadd, 1) := by decide +kernel
theorem dX6_copyBlock_69 : decode cX6_copyBlock 69 = .ok (.invokevirtual 62, 3) := by decide +kernel
theorem dX6_copyBlock_72 : decode cX6_copyBlock 72 = .ok (.pop, 1) := by decide +kernel
theorem dX6_copyBlock_73 : decode cX6_copyBlock 73 = .ok (.iconst 0, 1) := by decide +kernel
theorem dX6_copyBlock_74 : decode cX6_copyBlock 74 = .ok (.istore 6, 2) := by decide +kernel
theorem dX6_copyBlock_76 : decode cX6_copyBlock 76 = .ok (.iload 6, 2) := by decide +kernel
theorem dX6_copyBlock_78 : decode cX6_copyBlock 78 = .ok (.iconst 3, 1) := by decide +kernel
theorem dX6_copyBlock_79 : decode cX6_copyBlock 79 = .ok (.if_icmp .ge 38, 3) := by decide +kernel
theorem dX6_copyBlock_82 : decode cX6_copyBlock 82 = .ok (.aload_n 0, 1) := by decide +kernel
theorem dX6_copyBlock_83 : decode cX6_copyBlock 83 = .ok (.getfield 19, 3) := by decide +kernel
theorem dX6_copyBlock_86 : decode cX6_copyBlock 86 = .ok (.iconst 3, 1) := by decide +kernel
theorem dX6_copyBlock_87 : decode cX6_copyBlock 87 = .ok (.iload 5, 2) := by decide +kernel
theorem dX6_copyBlock_89 : decode cX6_copyBlock 89 = .ok (.imul, 1) := by decide +kernel
theorem dX6_copyBlock_90 : decode cX6_copyBlock 90 = .ok (.iload 6, 2) := by decide +kernel
theorem dX6_copyBlock_92 : decode cX6_copyBlock 92 = .ok (.iadd, 1) := by decide +kernel
theorem dX6_copyBlock_93 : decode cX6_copyBlock 93 = .ok (.aload_n 0, 1) := by decide +kernel
theorem dX6_copyBlock_94 : decode cX6_copyBlock 94 = .ok (.getfield 7, 3) := by decide +kernel
theorem dX6_copyBlock_97 : decode cX6_copyBlock 97 = .ok (.iload 4, 2) := by decide +kernel
theorem dX6_copyBlock_99 : decode cX6_copyBlock 99 = .ok (.iload_n 1, 1) := by decide +kernel
theorem dX6_copyBlock_100 : decode cX6_copyBlock 100 = .ok (.iload 5, 2) := by decide +kernel
theorem dX6_copyBlock_102 : decode cX6_copyBlock 102 = .ok (.iadd, 1) := by decide +kernel
theorem dX6_copyBlock_103 : decode cX6_copyBlock 103 = .ok (.invokestatic 34, 3) := by decide +kernel
theorem dX6_copyBlock_106 : decode cX6_copyBlock 106 = .ok (.iload 6, 2) := by decide +kernel
theorem dX6_copyBlock_108 : decode cX6_copyBlock 108 = .ok (.iadd, 1) := by decide +kernel
theorem dX6_copyBlock_109 : decode cX6_copyBlock 109 = .ok (.iaload, 1) := by decide +kernel
theorem dX6_copyBlock_110 : decode cX6_copyBlock 110 = .ok (.iastore, 1) := by decide +kernel
theorem dX6_copyBlock_111 : decode cX6_copyBlock 111 = .ok (.iinc 6 1, 3) := by decide +kernel
theorem dX6_copyBlock_114 : decode cX6_copyBlock 114 = .ok (.goto (-38), 3) := by decide +kernel
theorem dX6_copyBlock_117 : decode cX6_copyBlock 117 = .ok (.iinc 5 1, 3) := by decide +kernel
theorem dX6_copyBlock_120 : decode cX6_copyBlock 120 = .ok (.goto (-64), 3) := by decide +kernel
theorem dX6_copyBlock_123 : decode cX6_copyBlock 123 = .ok (.iconst 0, 1) := by decide +kernel
theorem dX6_copyBlock_124 : decode cX6_copyBlock 124 = .ok (.istore 5, 2) := by decide +kernel
theorem dX6_copyBlock_126 : decode cX6_copyBlock 126 = .ok (.iconst 0, 1) := by decide +kernel
theorem dX6_copyBlock_127 : decode cX6_copyBlock 127 = .ok (.istore 6, 2) := by decide +kernel
theorem dX6_copyBlock_129 : decode cX6_copyBlock 129 = .ok (.iload 6, 2) := by decide +kernel
theorem dX6_copyBlock_131 : decode cX6_copyBlock 131 = .ok (.iload_n 3, 1) := by decide +kernel
theorem dX6_copyBlock_132 : decode cX6_copyBlock 132 = .ok (.if_icmp .ge 92, 3) := by decide +kernel
theorem dX6_copyBlock_135 : decode cX6_copyBlock 135 = .ok (.aload_n 0, 1) := by decide +kernel
theorem dX6_copyBlock_136 : decode cX6_copyBlock 136 = .ok (.iload 4, 2) := by decide +kernel
theorem dX6_copyBlock_138 : decode cX6_copyBlock 138 = .ok (.iload_n 2, 1) := by decide +kernel
theorem dX6_copyBlock_139 : decode cX6_copyBlock 139 = .ok (.iload 6, 2) := by decide +kernel
theorem dX6_copyBlock_141 : decode cX6_copyBlock 141 = .ok (.iadd, 1) := by decide +kernel
theorem dX6_copyBlock_142 : decode cX6_copyBlock 142 = .ok (.invokestatic 34, 3) := by decide +kernel
theorem dX6_copyBlock_145 : decode cX6_copyBlock 145 = .ok (.aload_n 0, 1) := by decide +kernel
theorem dX6_copyBlock_146 : decode cX6_copyBlock 146 = .ok (.getfield 19, 3) := by decide +kernel
theorem dX6_copyBlock_149 : decode cX6_copyBlock 149 = .ok (.iconst 3, 1) := by decide +kernel
theorem dX6_copyBlock_150 : decode cX6_copyBlock 150 = .ok (.iload 6, 2) := by decide +kernel
theorem dX6_copyBlock_152 : decode cX6_copyBlock 152 = .ok (.imul, 1) := by decide +kernel
theorem dX6_copyBlock_153 : decode cX6_copyBlock 153 = .ok (.iaload, 1) := by decide +kernel
theorem dX6_copyBlock_154 : decode cX6_copyBlock 154 = .ok (.aload_n 0, 1) := by decide +kernel
theorem dX6_copyBlock_155 : decode cX6_copyBlock 155 = .ok (.getfield 19, 3) := by decide +kernel
theorem dX6_copyBlock_158 : decode cX6_copyBlock 158 = .ok (.iconst 3, 1) := by decide +kernel
theorem dX6_copyBlock_159 : decode cX6_copyBlock 159 = .ok (.iload 6, 2) := by decide +kernel
theorem dX6_copyBlock_161 : decode cX6_copyBlock 161 = .ok (.imul, 1) := by decide +kernel
theorem dX6_copyBlock_162 : decode cX6_copyBlock 162 = .ok (.iconst 1, 1) := by decide +kernel
theorem dX6_copyBlock_163 : decode cX6_copyBlock 163 = .ok (.iadd, 1) := by decide +kernel
theorem dX6_copyBlock_164 : decode cX6_copyBlock 164 = .ok (.iaload, 1) := by decide +kernel
theorem dX6_copyBlock_165 : decode cX6_copyBlock 165 = .ok (.aload_n 0, 1) := by decide +kernel
theorem dX6_copyBlock_166 : decode cX6_copyBlock 166 = .ok (.getfield 19, 3) := by decide +kernel
theorem dX6_copyBlock_169 : decode cX6_copyBlock 169 = .ok (.iconst 3, 1) := by decide +kernel
theorem dX6_copyBlock_170 : decode cX6_copyBlock 170 = .ok (.iload 6, 2) := by decide +kernel
theorem dX6_copyBlock_172 : decode cX6_copyBlock 172 = .ok (.imul, 1) := by decide +kernel
theorem dX6_copyBlock_173 : decode cX6_copyBlock 173 = .ok (.iconst 2, 1) := by decide +kernel
theorem dX6_copyBlock_174 : decode cX6_copyBlock 174 = .ok (.iadd, 1) := by decide +kernel
theorem dX6_copyBlock_175 : decode cX6_copyBlock 175 = .ok (.iaload, 1) := by decide +kernel
theorem dX6_copyBlock_176 : decode cX6_copyBlock 176 = .ok (.invokestatic 26, 3) := by decide +kernel
theorem dX6_copyBlock_179 : decode cX6_copyBlock 179 = .ok (.invokevirtual 30, 3) := by decide +kernel
theorem dX6_copyBlock_182 : decode cX6_copyBlock 182 = .ok (.aload_n 0, 1) := by decide +kernel
theorem dX6_copyBlock_183 : decode cX6_copyBlock 183 = .ok (.iload 4, 2) := by decide +kernel
theorem dX6_copyBlock_185 : decode cX6_copyBlock 185 = .ok (.iload_n 2, 1) := by decide +kernel
theorem dX6_copyBlock_186 : decode cX6_copyBlock 186 = .ok (.iload 6, 2) := by decide +kernel
theorem dX6_copyBlock_188 : decode cX6_copyBlock 188 = .ok (.iadd, 1) := by decide +kernel
theorem dX6_copyBlock_189 : decode cX6_copyBlock 189 = .ok (.invokevirtual 69, 3) := by decide +kernel
theorem dX6_copyBlock_192 : decode cX6_copyBlock 192 = .ok (.iload 5, 2) := by decide +kernel
theorem dX6_copyBlock_194 : decode cX6_copyBlock 194 = .ok (.aload_n 0, 1) := by decide +kernel
theorem dX6_copyBlock_195 : decode cX6_copyBlock 195 = .ok (.iload 4, 2) := by decide +kernel
theorem dX6_copyBlock_197 : decode cX6_copyBlock 197 = .ok (.iload_n 2, 1) := by decide +kernel
theorem dX6_copyBlock_198 : decode cX6_copyBlock 198 = .ok (.iload 6, 2) := by decide +kernel
theorem dX6_copyBlock_200 : decode cX6_copyBlock 200 = .ok (.iadd, 1) := by decide +kernel
theorem dX6_copyBlock_201 : decode cX6_copyBlock 201 = .ok (.invokestatic 34, 3) := by decide +kernel
theorem dX6_copyBlock_204 : decode cX6_copyBlock 204 = .ok (.invokevirtual 38, 3) := by decide +kernel
theorem dX6_copyBlock_207 : decode cX6_copyBlock 207 = .ok (.ifCond .eq 7, 3) := by decide +kernel
theorem dX6_copyBlock_210 : decode cX6_copyBlock 210 = .ok (.iconst 1, 1) := by decide +kernel
theorem dX6_copyBlock_211 : decode cX6_copyBlock 211 = .ok (.goto 4, 3) := by decide +kernel
theorem dX6_copyBlock_214 : decode cX6_copyBlock 214 = .ok (.iconst 0, 1) := by decide +kernel
theorem dX6_copyBlock_215 : decode cX6_copyBlock 215 = .ok (.iadd, 1) := by decide +kernel
theorem dX6_copyBlock_216 : decode cX6_copyBlock 216 = .ok (.istore 5, 2) := by decide +kernel
theorem dX6_copyBlock_218 : decode cX6_copyBlock 218 = .ok (.iinc 6 1, 3) := by decide +kernel
theorem dX6_copyBlock_221 : decode cX6_copyBlock 221 = .ok (.goto (-92), 3) := by decide +kernel
theorem dX6_copyBlock_224 : decode cX6_copyBlock 224 = .ok (.aload_n 0, 1) := by decide +kernel
theorem dX6_copyBlock_225 : decode cX6_copyBlock 225 = .ok (.iload 5, 2) := by decide +kernel
theorem dX6_copyBlock_227 : decode cX6_copyBlock 227 = .ok (.invokevirtual 106, 3) := by decide +kernel
theorem dX6_copyBlock_230 : decode cX6_copyBlock 230 = .ok (.ireturn, 1) := by decide +kernel
set_option maxRecDepth 20000 in
theorem ggX6_fill_X6_isWord : GoodIn wsX6_fill wsX6_isWord := goodIn_r _ [5, 6, 7, 4, 8] (by decide +kernel) (by decide +kernel)
set_option maxRecDepth 20000 in
theorem gX6_fill_X6_isWord : GoodIn wsX6_fill (va_wsS RX6 96 yX6_isWord wsX6_isWord) := goodIn_app (goodIn_of _ (by decide +kernel)) ggX6_fill_X6_isWord
set_option maxRecDepth 20000 in
theorem ggX6_fill_X6_in : GoodIn wsX6_fill wsX6_in := goodIn_r _ [8] (by decide +kernel) (by decide +kernel)
set_option maxRecDepth 20000 in
theorem gX6_fill_X6_in : GoodIn wsX6_fill (va_wsS RX6 22 yX6_in wsX6_in) := goodIn_app (goodIn_of _ (by decide +kernel)) ggX6_fill_X6_in
set_option maxRecDepth 20000 in
theorem ggX6_fill_X6_begins : GoodIn wsX6_fill wsX6_begins := goodIn_r _ [12, 13, 14, 15, 4, 16, 17, 48, 49, 50, 51, 52, 53, 54, 55] (by decide +kernel) (by decide +kernel)
set_option maxRecDepth 20000 in
theorem gX6_fill_X6_begins : GoodIn wsX6_fill (wsV RX6 99 RX6 yX6_begins wsX6_begins) := goodIn_app (goodIn_of _ (by decide +kernel)) ggX6_fill_X6_begins
set_option maxRecDepth 20000 in
theorem ggX6_fill_X6_wordAt : GoodIn wsX6_fill wsX6_wordAt := goodIn_r _ [20] (by decide +kernel) (by decide +kernel)
set_option maxRecDepth 20000 in
theorem gX6_fill_X6_wordAt : GoodIn wsX6_fill (va_wsS RX6 34 yX6_wordAt wsX6_wordAt) := goodIn_app (goodIn_of _ (by decide +kernel)) ggX6_fill_X6_wordAt
set_option maxRecDepth 20000 in
theorem ggX6_fill_X6_isPoisoned : GoodIn wsX6_fill wsX6_isPoisoned := goodIn_r _ [24, 17, 48, 49, 50, 51, 52, 53, 54, 55] (by decide +kernel) (by decide +kernel)
set_option maxRecDepth 20000 in
theorem gX6_fill_X6_isPoisoned : GoodIn wsX6_fill (wsV RX6 38 RX6 yX6_isPoisoned wsX6_isPoisoned) := goodIn_app (goodIn_of _ (by decide +kernel)) ggX6_fill_X6_isPoisoned
set_option maxRecDepth 20000 in
theorem ggX6_fill_X6_lays : GoodIn wsX6_fill wsX6_lays := goodIn_r _ [28, 17, 48, 49, 50, 51, 52, 53, 54, 55] (by decide +kernel) (by decide +kernel)
set_option maxRecDepth 20000 in
theorem gX6_fill_X6_lays : GoodIn wsX6_fill (wsV RX6 30 RX6 yX6_lays wsX6_lays) := goodIn_app (goodIn_of _ (by decide +kernel)) ggX6_fill_X6_lays
set_option maxRecDepth 20000 in
theorem ggX6_fill_X6_written : GoodIn wsX6_fill wsX6_written := goodIn_r _ [32, 17, 18, 19, 4, 20, 33, 34, 35, 36, 37, 38, 39, 25, 26, 27, 28, 48, 49, 50, 51, 52, 53, 54, 55] (by decide +kernel) (by decide +kernel)
set_option maxRecDepth 20000 in
theorem gX6_fill_X6_written : GoodIn wsX6_fill (wsV RX6 69 RX6 yX6_written wsX6_written) := goodIn_app (goodIn_of _ (by decide +kernel)) ggX6_fill_X6_written
set_option maxRecDepth 20000 in
theorem ggX6_fill_X6_accepts : GoodIn wsX6_fill wsX6_accepts := goodIn_r _ [43, 44, 45, 46, 4, 47, 13, 14, 15, 16, 17, 48, 49, 50, 51, 52, 53, 54, 55] (by decide +kernel) (by decide +kernel)
set_option maxRecDepth 20000 in
theorem gX6_fill_X6_accepts : GoodIn wsX6_fill (wsV RX6 106 RX6 yX6_accepts wsX6_accepts) := goodIn_app (goodIn_of _ (by decide +kernel)) ggX6_fill_X6_accepts
theorem dX6_fill_0 : decode cX6_fill 0 = .ok (.iload_n 1, 1) := by decide +kernel
theorem dX6_fill_1 : decode cX6_fill 1 = .ok (.invokestatic 96, 3) := by decide +kernel
theorem dX6_fill_4 : decode cX6_fill 4 = .ok (.ifCond .ne 5, 3) := by decide +kernel
theorem dX6_fill_7 : decode cX6_fill 7 = .ok (.iconst (-1), 1) := by decide +kernel
theorem dX6_fill_8 : decode cX6_fill 8 = .ok (.ireturn, 1) := by decide +kernel
theorem dX6_fill_9 : decode cX6_fill 9 = .ok (.iload_n 2, 1) := by decide +kernel
theorem dX6_fill_10 : decode cX6_fill 10 = .ok (.iconst 1, 1) := by decide +kernel
theorem dX6_fill_11 : decode cX6_fill 11 = .ok (.bipush 16, 2) := by decide +kernel
theorem dX6_fill_13 : decode cX6_fill 13 = .ok (.invokestatic 22, 3) := by decide +kernel
theorem dX6_fill_16 : decode cX6_fill 16 = .ok (.ifCond .eq 13, 3) := by decide +kernel
theorem dX6_fill_19 : decode cX6_fill 19 = .ok (.iload_n 3, 1) := by decide +kernel
theorem dX6_fill_20 : decode cX6_fill 20 = .ok (.iconst 0, 1) := by decide +kernel
theorem dX6_fill_21 : decode cX6_fill 21 = .ok (.ldc 109, 2) := by decide +kernel
theorem dX6_fill_23 : decode cX6_fill 23 = .ok (.invokestatic 22, 3) := by decide +kernel
theorem dX6_fill_26 : decode cX6_fill 26 = .ok (.ifCond .ne 6, 3) := by decide +kernel
theorem dX6_fill_29 : decode cX6_fill 29 = .ok (.bipush (-2), 2) := by decide +kernel
theorem dX6_fill_31 : decode cX6_fill 31 = .ok (.ireturn, 1) := by decide +kernel
theorem dX6_fill_32 : decode cX6_fill 32 = .ok (.iload_n 1, 1) := by decide +kernel
theorem dX6_fill_33 : decode cX6_fill 33 = .ok (.iload_n 2, 1) := by decide +kernel
theorem dX6_fill_34 : decode cX6_fill 34 = .ok (.iadd, 1) := by decide +kernel
theorem dX6_fill_35 : decode cX6_fill 35 = .ok (.bipush 32, 2) := by decide +kernel
theorem dX6_fill_37 : decode cX6_fill 37 = .ok (.if_icmp .le 5, 3) := by decide +kernel
theorem dX6_fill_40 : decode cX6_fill 40 = .ok (.iconst (-1), 1) := by decide +kernel
theorem dX6_fill_41 : decode cX6_fill 41 = .ok (.ireturn, 1) := by decide +kernel
theorem dX6_fill_42 : decode cX6_fill 42 = .ok (.aload_n 0, 1) := by decide +kernel
theorem dX6_fill_43 : decode cX6_fill 43 = .ok (.invokevirtual 99, 3) := by decide +kernel
theorem dX6_fill_46 : decode cX6_fill 46 = .ok (.istore 4, 2) := by decide +kernel
theorem dX6_fill_48 : decode cX6_fill 48 = .ok (.iconst 0, 1) := by decide +kernel
theorem dX6_fill_49 : decode cX6_fill 49 = .ok (.istore 5, 2) := by decide +kernel
theorem dX6_fill_51 : decode cX6_fill 51 = .ok (.iload_n 1, 1) := by decide +kernel
theorem dX6_fill_52 : decode cX6_fill 52 = .ok (.istore 6, 2) := by decide +kernel
theorem dX6_fill_54 : decode cX6_fill 54 = .ok (.iload 6, 2) := by decide +kernel
theorem dX6_fill_56 : decode cX6_fill 56 = .ok (.iload_n 1, 1) := by decide +kernel
theorem dX6_fill_57 : decode cX6_fill 57 = .ok (.iload_n 2, 1) := by decide +kernel
theorem dX6_fill_58 : decode cX6_fill 58 = .ok (.iadd, 1) := by decide +kernel
theorem dX6_fill_59 : decode cX6_fill 59 = .ok (.if_icmp .ge 56, 3) := by decide +kernel
theorem dX6_fill_62 : decode cX6_fill 62 = .ok (.iload 5, 2) := by decide +kernel
theorem dX6_fill_64 : decode cX6_fill 64 = .ok (.aload_n 0, 1) := by decide +kernel
theorem dX6_fill_65 : decode cX6_fill 65 = .ok (.iload 4, 2) := by decide +kernel
theorem dX6_fill_67 : decode cX6_fill 67 = .ok (.iload 6, 2) := by decide +kernel
theorem dX6_fill_69 : decode cX6_fill 69 = .ok (.invokestatic 34, 3) := by decide +kernel
theorem dX6_fill_72 : decode cX6_fill 72 = .ok (.invokevirtual 38, 3) := by decide +kernel
theorem dX6_fill_75 : decode cX6_fill 75 = .ok (.ifCond .eq 7, 3) := by decide +kernel
theorem dX6_fill_78 : decode cX6_fill 78 = .ok (.iconst 1, 1) := by decide +kernel
theorem dX6_fill_79 : decode cX6_fill 79 = .ok (.goto 4, 3) := by decide +kernel
theorem dX6_fill_82 : decode cX6_fill 82 = .ok (.iconst 0, 1) := by decide +kernel
theorem dX6_fill_83 : decode cX6_fill 83 = .ok (.iadd, 1) := by decide +kernel
theorem dX6_fill_84 : decode cX6_fill 84 = .ok (.istore 5, 2) := by decide +kernel
theorem dX6_fill_86 : decode cX6_fill 86 = .ok (.aload_n 0, 1) := by decide +kernel
theorem dX6_fill_87 : decode cX6_fill 87 = .ok (.iload 4, 2) := by decide +kernel
theorem dX6_fill_89 : decode cX6_fill 89 = .ok (.iload 6, 2) := by decide +kernel
theorem dX6_fill_91 : decode cX6_fill 91 = .ok (.invokestatic 34, 3) := by decide +kernel
theorem dX6_fill_94 : decode cX6_fill 94 = .ok (.iload_n 3, 1) := by decide +kernel
theorem dX6_fill_95 : decode cX6_fill 95 = .ok (.bipush (-6), 2) := by decide +kernel
theorem dX6_fill_97 : decode cX6_fill 97 = .ok (.iconst 0, 1) := by decide +kernel
theorem dX6_fill_98 : decode cX6_fill 98 = .ok (.invokevirtual 30, 3) := by decide +kernel
theorem dX6_fill_101 : decode cX6_fill 101 = .ok (.aload_n 0, 1) := by decide +kernel
theorem dX6_fill_102 : decode cX6_fill 102 = .ok (.iload 4, 2) := by decide +kernel
theorem dX6_fill_104 : decode cX6_fill 104 = .ok (.iload 6, 2) := by decide +kernel
theorem dX6_fill_106 : decode cX6_fill 106 = .ok (.invokevirtual 69, 3) := by decide +kernel
theorem dX6_fill_109 : decode cX6_fill 109 = .ok (.iinc 6 1, 3) := by decide +kernel
theorem dX6_fill_112 : decode cX6_fill 112 = .ok (.goto (-58), 3) := by decide +kernel
theorem dX6_fill_115 : decode cX6_fill 115 = .ok (.aload_n 0, 1) := by decide +kernel
theorem dX6_fill_116 : decode cX6_fill 116 = .ok (.iload 5, 2) := by decide +kernel
theorem dX6_fill_118 : decode cX6_fill 118 = .ok (.invokevirtual 106, 3) := by decide +kernel
theorem dX6_fill_121 : decode cX6_fill 121 = .ok (.ireturn, 1) := by decide +kernel
set_option maxRecDepth 20000 in
theorem ggX6_setMirror_X6_isPage : GoodIn wsX6_setMirror wsX6_isPage := goodIn_r _ [5, 6, 7, 4, 8] (by decide +kernel) (by decide +kernel)
set_option maxRecDepth 20000 in
theorem gX6_setMirror_X6_isPage : GoodIn wsX6_setMirror (va_wsS RX6 110 yX6_isPage wsX6_isPage) := goodIn_app (goodIn_of _ (by decide +kernel)) ggX6_setMirror_X6_isPage
set_option maxRecDepth 20000 in
theorem ggX6_setMirror_X6_begins : GoodIn wsX6_setMirror wsX6_begins := goodIn_r _ [12, 13, 14, 15, 4, 16, 1, 43, 44, 45, 46, 47, 48, 49, 50] (by decide +kernel) (by decide +kernel)
set_option maxRecDepth 20000 in
theorem gX6_setMirror_X6_begins : GoodIn wsX6_setMirror (wsV RX6 99 RX6 yX6_begins wsX6_begins) := goodIn_app (goodIn_of _ (by decide +kernel)) ggX6_setMirror_X6_begins
set_option maxRecDepth 20000 in
theorem ggX6_setMirror_X6_written : GoodIn wsX6_setMirror wsX6_written := goodIn_r _ [20, 1, 21, 22, 4, 23, 24, 25, 26, 27, 28, 29, 30, 31, 32, 33, 34, 43, 44, 45, 46, 47, 48, 49, 50] (by decide +kernel) (by decide +kernel)
set_option maxRecDepth 20000 in
theorem gX6_setMirror_X6_written : GoodIn wsX6_setMirror (wsV RX6 69 RX6 yX6_written wsX6_written) := goodIn_app (goodIn_of _ (by decide +kernel)) ggX6_setMirror_X6_written
set_option maxRecDepth 20000 in
theorem ggX6_setMirror_X6_accepts : GoodIn wsX6_setMirror wsX6_accepts := goodIn_r _ [38, 39, 40, 41, 4, 42, 13, 14, 15, 16, 1, 43, 44, 45, 46, 47, 48, 49, 50] (by decide +kernel) (by decide +kernel)
set_option maxRecDepth 20000 in
theorem gX6_setMirror_X6_accepts : GoodIn wsX6_setMirror (wsV RX6 106 RX6 yX6_accepts wsX6_accepts) := goodIn_app (goodIn_of _ (by decide +kernel)) ggX6_setMirror_X6_accepts
theorem dX6_setMirror_0 : decode cX6_setMirror 0 = .ok (.iload_n 1, 1) := by decide +kernel
theorem dX6_setMirror_1 : decode cX6_setMirror 1 = .ok (.invokestatic 110, 3) := by decide +kernel
theorem dX6_setMirror_4 : decode cX6_setMirror 4 = .ok (.ifCond .ne 5, 3) := by decide +kernel
theorem dX6_setMirror_7 : decode cX6_setMirror 7 = .ok (.iconst (-1), 1) := by decide +kernel
theorem dX6_setMirror_8 : decode cX6_setMirror 8 = .ok (.ireturn, 1) := by decide +kernel
theorem dX6_setMirror_9 : decode cX6_setMirror 9 = .ok (.aload_n 0, 1) := by decide +kernel
theorem dX6_setMirror_10 : decode cX6_setMirror 10 = .ok (.invokevirtual 99, 3) := by decide +kernel
theorem dX6_setMirror_13 : decode cX6_setMirror 13 = .ok (.istore_n 3, 1) := by decide +kernel
theorem dX6_setMirror_14 : decode cX6_setMirror 14 = .ok (.aload_n 0, 1) := by decide +kernel
theorem dX6_setMirror_15 : decode cX6_setMirror 15 = .ok (.getfield 7, 3) := by decide +kernel
theorem dX6_setMirror_18 : decode cX6_setMirror 18 = .ok (.iload_n 3, 1) := by decide +kernel
theorem dX6_setMirror_19 : decode cX6_setMirror 19 = .ok (.sipush 240, 3) := by decide +kernel
theorem dX6_setMirror_22 : decode cX6_setMirror 22 = .ok (.iadd, 1) := by decide +kernel
theorem dX6_setMirror_23 : decode cX6_setMirror 23 = .ok (.iload_n 1, 1) := by decide +kernel
theorem dX6_setMirror_24 : decode cX6_setMirror 24 = .ok (.iadd, 1) := by decide +kernel
theorem dX6_setMirror_25 : decode cX6_setMirror 25 = .ok (.iload_n 2, 1) := by decide +kernel
theorem dX6_setMirror_26 : decode cX6_setMirror 26 = .ok (.ifCond .eq 7, 3) := by decide +kernel
theorem dX6_setMirror_29 : decode cX6_setMirror 29 = .ok (.iconst 1, 1) := by decide +kernel
theorem dX6_setMirror_30 : decode cX6_setMirror 30 = .ok (.goto 4, 3) := by decide +kernel
theorem dX6_setMirror_33 : decode cX6_setMirror 33 = .ok (.iconst 0, 1) := by decide +kernel
theorem dX6_setMirror_34 : decode cX6_setMirror 34 = .ok (.iastore, 1) := by decide +kernel
theorem dX6_setMirror_35 : decode cX6_setMirror 35 = .ok (.iconst 4, 1) := by decide +kernel
theorem dX6_setMirror_36 : decode cX6_setMirror 36 = .ok (.iload_n 1, 1) := by decide +kernel
theorem dX6_setMirror_37 : decode cX6_setMirror 37 = .ok (.imul, 1) := by decide +kernel
theorem dX6_setMirror_38 : decode cX6_setMirror 38 = .ok (.istore 4, 2) := by decide +kernel
theorem dX6_setMirror_40 : decode cX6_setMirror 40 = .ok (.iload 4, 2) := by decide +kernel
theorem dX6_setMirror_42 : decode cX6_setMirror 42 = .ok (.iconst 4, 1) := by decide +kernel
theorem dX6_setMirror_43 : decode cX6_setMirror 43 = .ok (.iload_n 1, 1) := by decide +kernel
theorem dX6_setMirror_44 : decode cX6_setMirror 44 = .ok (.imul, 1) := by decide +kernel
theorem dX6_setMirror_45 : decode cX6_setMirror 45 = .ok (.iconst 4, 1) := by decide +kernel
theorem dX6_setMirror_46 : decode cX6_setMirror 46 = .ok (.iadd, 1) := by decide +kernel
theorem dX6_setMirror_47 : decode cX6_setMirror 47 = .ok (.if_icmp .ge 16, 3) := by decide +kernel
theorem dX6_setMirror_50 : decode cX6_setMirror 50 = .ok (.aload_n 0, 1) := by decide +kernel
theorem dX6_setMirror_51 : decode cX6_setMirror 51 = .ok (.iload_n 3, 1) := by decide +kernel
theorem dX6_setMirror_52 : decode cX6_setMirror 52 = .ok (.iload 4, 2) := by decide +kernel
theorem dX6_setMirror_54 : decode cX6_setMirror 54 = .ok (.invokevirtual 69, 3) := by decide +kernel
theorem dX6_setMirror_57 : decode cX6_setMirror 57 = .ok (.iinc 4 1, 3) := by decide +kernel
theorem dX6_setMirror_60 : decode cX6_setMirror 60 = .ok (.goto (-20), 3) := by decide +kernel
theorem dX6_setMirror_63 : decode cX6_setMirror 63 = .ok (.iconst 0, 1) := by decide +kernel
theorem dX6_setMirror_64 : decode cX6_setMirror 64 = .ok (.istore 4, 2) := by decide +kernel
theorem dX6_setMirror_66 : decode cX6_setMirror 66 = .ok (.iconst 0, 1) := by decide +kernel
theorem dX6_setMirror_67 : decode cX6_setMirror 67 = .ok (.istore 5, 2) := by decide +kernel
theorem dX6_setMirror_69 : decode cX6_setMirror 69 = .ok (.iload 5, 2) := by decide +kernel
theorem dX6_setMirror_71 : decode cX6_setMirror 71 = .ok (.bipush 8, 2) := by decide +kernel
theorem dX6_setMirror_73 : decode cX6_setMirror 73 = .ok (.if_icmp .ge 27, 3) := by decide +kernel
theorem dX6_setMirror_76 : decode cX6_setMirror 76 = .ok (.iload 4, 2) := by decide +kernel
theorem dX6_setMirror_78 : decode cX6_setMirror 78 = .ok (.aload_n 0, 1) := by decide +kernel
theorem dX6_setMirror_79 : decode cX6_setMirror 79 = .ok (.getfield 7, 3) := by decide +kernel
theorem dX6_setMirror_82 : decode cX6_setMirror 82 = .ok (.iload_n 3, 1) := by decide +kernel
theorem dX6_setMirror_83 : decode cX6_setMirror 83 = .ok (.sipush 240, 3) := by decide +kernel
theorem dX6_setMirror_86 : decode cX6_setMirror 86 = .ok (.iadd, 1) := by decide +kernel
theorem dX6_setMirror_87 : decode cX6_setMirror 87 = .ok (.iload 5, 2) := by decide +kernel
theorem dX6_setMirror_89 : decode cX6_setMirror 89 = .ok (.iadd, 1) := by decide +kernel
theorem dX6_setMirror_90 : decode cX6_setMirror 90 = .ok (.iaload, 1) := by decide +kernel
theorem dX6_setMirror_91 : decode cX6_setMirror 91 = .ok (.iadd, 1) := by decide +kernel
theorem dX6_setMirror_92 : decode cX6_setMirror 92 = .ok (.istore 4, 2) := by decide +kernel
theorem dX6_setMirror_94 : decode cX6_setMirror 94 = .ok (.iinc 5 1, 3) := by decide +kernel
theorem dX6_setMirror_97 : decode cX6_setMirror 97 = .ok (.goto (-28), 3) := by decide +kernel
theorem dX6_setMirror_100 : decode cX6_setMirror 100 = .ok (.aload_n 0, 1) := by decide +kernel
theorem dX6_setMirror_101 : decode cX6_setMirror 101 = .ok (.iload 4, 2) := by decide +kernel
theorem dX6_setMirror_103 : decode cX6_setMirror 103 = .ok (.invokevirtual 106, 3) := by decide +kernel
theorem dX6_setMirror_106 : decode cX6_setMirror 106 = .ok (.ireturn, 1) := by decide +kernel
set_option maxRecDepth 20000 in
theorem ggX6_scrub_X6_isPage : GoodIn wsX6_scrub wsX6_isPage := goodIn_r _ [4, 5, 6, 3, 7] (by decide +kernel) (by decide +kernel)
set_option maxRecDepth 20000 in
theorem gX6_scrub_X6_isPage : GoodIn wsX6_scrub (va_wsS RX6 110 yX6_isPage wsX6_isPage) := goodIn_app (goodIn_of _ (by decide +kernel)) ggX6_scrub_X6_isPage
set_option maxRecDepth 20000 in
theorem ggX6_scrub_X6_begins : GoodIn wsX6_scrub wsX6_begins := goodIn_r _ [11, 12, 13, 14, 3, 15, 16, 51, 52, 53, 54, 55, 56, 57, 58] (by decide +kernel) (by decide +kernel)
set_option maxRecDepth 20000 in
theorem gX6_scrub_X6_begins : GoodIn wsX6_scrub (wsV RX6 99 RX6 yX6_begins wsX6_begins) := goodIn_app (goodIn_of _ (by decide +kernel)) ggX6_scrub_X6_begins
set_option maxRecDepth 20000 in
theorem ggX6_scrub_X6_fetches : GoodIn wsX6_scrub wsX6_fetches := goodIn_r _ [20, 16, 21, 22, 23, 3, 24, 25, 26, 27, 28, 29, 30, 31, 32, 33, 34, 35, 36, 37, 38, 39, 40, 41, 42, 51, 52, 53, 54, 55, 56, 57, 58] (by decide +kernel) (by decide +kernel)
set_option maxRecDepth 20000 in
theorem gX6_scrub_X6_fetches : GoodIn wsX6_scrub (wsV RX6 62 RX6 yX6_fetches wsX6_fetches) := goodIn_app (goodIn_of _ (by decide +kernel)) ggX6_scrub_X6_fetches
set_option maxRecDepth 20000 in
theorem ggX6_scrub_X6_accepts : GoodIn wsX6_scrub wsX6_accepts := goodIn_r _ [46, 47, 48, 49, 3, 50, 12, 13, 14, 15, 16, 51, 52, 53, 54, 55, 56, 57, 58] (by decide +kernel) (by decide +kernel)
set_option maxRecDepth 20000 in
theorem gX6_scrub_X6_accepts : GoodIn wsX6_scrub (wsV RX6 106 RX6 yX6_accepts wsX6_accepts) := goodIn_app (goodIn_of _ (by decide +kernel)) ggX6_scrub_X6_accepts
theorem dX6_scrub_0 : decode cX6_scrub 0 = .ok (.iload_n 1, 1) := by decide +kernel
theorem dX6_scrub_1 : decode cX6_scrub 1 = .ok (.invokestatic 110, 3) := by decide +kernel
theorem dX6_scrub_4 : decode cX6_scrub 4 = .ok (.ifCond .ne 5, 3) := by decide +kernel
theorem dX6_scrub_7 : decode cX6_scrub 7 = .ok (.iconst (-1), 1) := by decide +kernel
theorem dX6_scrub_8 : decode cX6_scrub 8 = .ok (.ireturn, 1) := by decide +kernel
theorem dX6_scrub_9 : decode cX6_scrub 9 = .ok (.aload_n 0, 1) := by decide +kernel
theorem dX6_scrub_10 : decode cX6_scrub 10 = .ok (.invokevirtual 99, 3) := by decide +kernel
theorem dX6_scrub_13 : decode cX6_scrub 13 = .ok (.istore_n 2, 1) := by decide +kernel
theorem dX6_scrub_14 : decode cX6_scrub 14 = .ok (.iconst 0, 1) := by decide +kernel
theorem dX6_scrub_15 : decode cX6_scrub 15 = .ok (.istore_n 3, 1) := by decide +kernel
theorem dX6_scrub_16 : decode cX6_scrub 16 = .ok (.iconst 4, 1) := by decide +kernel
theorem dX6_scrub_17 : decode cX6_scrub 17 = .ok (.iload_n 1, 1) := by decide +kernel
theorem dX6_scrub_18 : decode cX6_scrub 18 = .ok (.imul, 1) := by decide +kernel
theorem dX6_scrub_19 : decode cX6_scrub 19 = .ok (.istore 4, 2) := by decide +kernel
theorem dX6_scrub_21 : decode cX6_scrub 21 = .ok (.iload 4, 2) := by decide +kernel
theorem dX6_scrub_23 : decode cX6_scrub 23 = .ok (.iconst 4, 1) := by decide +kernel
theorem dX6_scrub_24 : decode cX6_scrub 24 = .ok (.iload_n 1, 1) := by decide +kernel
theorem dX6_scrub_25 : decode cX6_scrub 25 = .ok (.imul, 1) := by decide +kernel
theorem dX6_scrub_26 : decode cX6_scrub 26 = .ok (.iconst 4, 1) := by decide +kernel
theorem dX6_scrub_27 : decode cX6_scrub 27 = .ok (.iadd, 1) := by decide +kernel
theorem dX6_scrub_28 : decode cX6_scrub 28 = .ok (.if_icmp .ge 19, 3) := by decide +kernel
theorem dX6_scrub_31 : decode cX6_scrub 31 = .ok (.iload_n 3, 1) := by decide +kernel
theorem dX6_scrub_32 : decode cX6_scrub 32 = .ok (.aload_n 0, 1) := by decide +kernel
theorem dX6_scrub_33 : decode cX6_scrub 33 = .ok (.iload_n 2, 1) := by decide +kernel
theorem dX6_scrub_34 : decode cX6_scrub 34 = .ok (.iload 4, 2) := by decide +kernel
theorem dX6_scrub_36 : decode cX6_scrub 36 = .ok (.invokevirtual 62, 3) := by decide +kernel
theorem dX6_scrub_39 : decode cX6_scrub 39 = .ok (.iadd, 1) := by decide +kernel
theorem dX6_scrub_40 : decode cX6_scrub 40 = .ok (.istore_n 3, 1) := by decide +kernel
theorem dX6_scrub_41 : decode cX6_scrub 41 = .ok (.iinc 4 1, 3) := by decide +kernel
theorem dX6_scrub_44 : decode cX6_scrub 44 = .ok (.goto (-23), 3) := by decide +kernel
theorem dX6_scrub_47 : decode cX6_scrub 47 = .ok (.aload_n 0, 1) := by decide +kernel
theorem dX6_scrub_48 : decode cX6_scrub 48 = .ok (.iload_n 3, 1) := by decide +kernel
theorem dX6_scrub_49 : decode cX6_scrub 49 = .ok (.invokevirtual 106, 3) := by decide +kernel
theorem dX6_scrub_52 : decode cX6_scrub 52 = .ok (.ireturn, 1) := by decide +kernel
set_option maxRecDepth 20000 in
theorem ggX6_setMode_X6_isOne : GoodIn wsX6_setMode wsX6_isOne := goodIn_r _ [5, 6, 7, 4, 8] (by decide +kernel) (by decide +kernel)
set_option maxRecDepth 20000 in
theorem gX6_setMode_X6_isOne : GoodIn wsX6_setMode (va_wsS RX6 113 yX6_isOne wsX6_isOne) := goodIn_app (goodIn_of _ (by decide +kernel)) ggX6_setMode_X6_isOne
set_option maxRecDepth 20000 in
theorem ggX6_setMode_X6_in : GoodIn wsX6_setMode wsX6_in := goodIn_r _ [8] (by decide +kernel) (by decide +kernel)
set_option maxRecDepth 20000 in
theorem gX6_setMode_X6_in : GoodIn wsX6_setMode (va_wsS RX6 22 yX6_in wsX6_in) := goodIn_app (goodIn_of _ (by decide +kernel)) ggX6_setMode_X6_in
set_option maxRecDepth 20000 in
theorem ggX6_setMode_X6_begins : GoodIn wsX6_setMode wsX6_begins := goodIn_r _ [12, 13, 14, 15, 4, 16, 1, 25, 26, 27, 28, 29, 30, 31, 32] (by decide +kernel) (by decide +kernel)
set_option maxRecDepth 20000 in
theorem gX6_setMode_X6_begins : GoodIn wsX6_setMode (wsV RX6 99 RX6 yX6_begins wsX6_begins) := goodIn_app (goodIn_of _ (by decide +kernel)) ggX6_setMode_X6_begins
set_option maxRecDepth 20000 in
theorem ggX6_setMode_X6_accepts : GoodIn wsX6_setMode wsX6_accepts := goodIn_r _ [20, 21, 22, 23, 4, 24, 13, 14, 15, 16, 1, 25, 26, 27, 28, 29, 30, 31, 32] (by decide +kernel) (by decide +kernel)
set_option maxRecDepth 20000 in
theorem gX6_setMode_X6_accepts : GoodIn wsX6_setMode (wsV RX6 106 RX6 yX6_accepts wsX6_accepts) := goodIn_app (goodIn_of _ (by decide +kernel)) ggX6_setMode_X6_accepts
theorem dX6_setMode_0 : decode cX6_setMode 0 = .ok (.iload_n 1, 1) := by decide +kernel
theorem dX6_setMode_1 : decode cX6_setMode 1 = .ok (.invokestatic 113, 3) := by decide +kernel
theorem dX6_setMode_4 : decode cX6_setMode 4 = .ok (.ifCond .ne 5, 3) := by decide +kernel
theorem dX6_setMode_7 : decode cX6_setMode 7 = .ok (.iconst (-1), 1) := by decide +kernel
theorem dX6_setMode_8 : decode cX6_setMode 8 = .ok (.ireturn, 1) := by decide +kernel
theorem dX6_setMode_9 : decode cX6_setMode 9 = .ok (.iload_n 2, 1) := by decide +kernel
theorem dX6_setMode_10 : decode cX6_setMode 10 = .ok (.iconst 0, 1) := by decide +kernel
theorem dX6_setMode_11 : decode cX6_setMode 11 = .ok (.iconst 2, 1) := by decide +kernel
theorem dX6_setMode_12 : decode cX6_setMode 12 = .ok (.invokestatic 22, 3) := by decide +kernel
theorem dX6_setMode_15 : decode cX6_setMode 15 = .ok (.ifCond .ne 6, 3) := by decide +kernel
theorem dX6_setMode_18 : decode cX6_setMode 18 = .ok (.bipush (-2), 2) := by decide +kernel
theorem dX6_setMode_20 : decode cX6_setMode 20 = .ok (.ireturn, 1) := by decide +kernel
theorem dX6_setMode_21 : decode cX6_setMode 21 = .ok (.aload_n 0, 1) := by decide +kernel
theorem dX6_setMode_22 : decode cX6_setMode 22 = .ok (.invokevirtual 99, 3) := by decide +kernel
theorem dX6_setMode_25 : decode cX6_setMode 25 = .ok (.istore_n 3, 1) := by decide +kernel
theorem dX6_setMode_26 : decode cX6_setMode 26 = .ok (.aload_n 0, 1) := by decide +kernel
theorem dX6_setMode_27 : decode cX6_setMode 27 = .ok (.getfield 7, 3) := by decide +kernel
theorem dX6_setMode_30 : decode cX6_setMode 30 = .ok (.iload_n 3, 1) := by decide +kernel
theorem dX6_setMode_31 : decode cX6_setMode 31 = .ok (.sipush 248, 3) := by decide +kernel
theorem dX6_setMode_34 : decode cX6_setMode 34 = .ok (.iadd, 1) := by decide +kernel
theorem dX6_setMode_35 : decode cX6_setMode 35 = .ok (.iload_n 1, 1) := by decide +kernel
theorem dX6_setMode_36 : decode cX6_setMode 36 = .ok (.iadd, 1) := by decide +kernel
theorem dX6_setMode_37 : decode cX6_setMode 37 = .ok (.iaload, 1) := by decide +kernel
theorem dX6_setMode_38 : decode cX6_setMode 38 = .ok (.istore 4, 2) := by decide +kernel
theorem dX6_setMode_40 : decode cX6_setMode 40 = .ok (.aload_n 0, 1) := by decide +kernel
theorem dX6_setMode_41 : decode cX6_setMode 41 = .ok (.getfield 7, 3) := by decide +kernel
theorem dX6_setMode_44 : decode cX6_setMode 44 = .ok (.iload_n 3, 1) := by decide +kernel
theorem dX6_setMode_45 : decode cX6_setMode 45 = .ok (.sipush 248, 3) := by decide +kernel
theorem dX6_setMode_48 : decode cX6_setMode 48 = .ok (.iadd, 1) := by decide +kernel
theorem dX6_setMode_49 : decode cX6_setMode 49 = .ok (.iload_n 1, 1) := by decide +kernel
theorem dX6_setMode_50 : decode cX6_setMode 50 = .ok (.iadd, 1) := by decide +kernel
theorem dX6_setMode_51 : decode cX6_setMode 51 = .ok (.iload_n 2, 1) := by decide +kernel
theorem dX6_setMode_52 : decode cX6_setMode 52 = .ok (.iastore, 1) := by decide +kernel
theorem dX6_setMode_53 : decode cX6_setMode 53 = .ok (.aload_n 0, 1) := by decide +kernel
theorem dX6_setMode_54 : decode cX6_setMode 54 = .ok (.iload 4, 2) := by decide +kernel
theorem dX6_setMode_56 : decode cX6_setMode 56 = .ok (.invokevirtual 106, 3) := by decide +kernel
theorem dX6_setMode_59 : decode cX6_setMode 59 = .ok (.ireturn, 1) := by decide +kernel
set_option maxRecDepth 20000 in
theorem ggX6_restart_X6_isOne : GoodIn wsX6_restart wsX6_isOne := goodIn_r _ [5, 6, 7, 4, 8] (by decide +kernel) (by decide +kernel)
set_option maxRecDepth 20000 in
theorem gX6_restart_X6_isOne : GoodIn wsX6_restart (va_wsS RX6 113 yX6_isOne wsX6_isOne) := goodIn_app (goodIn_of _ (by decide +kernel)) ggX6_restart_X6_isOne
set_option maxRecDepth 20000 in
theorem ggX6_restart_X6_begins : GoodIn wsX6_restart wsX6_begins := goodIn_r _ [12, 13, 14, 15, 4, 16, 1, 36, 37, 38, 39, 40, 41, 42, 43] (by decide +kernel) (by decide +kernel)
set_option maxRecDepth 20000 in
theorem gX6_restart_X6_begins : GoodIn wsX6_restart (wsV RX6 99 RX6 yX6_begins wsX6_begins) := goodIn_app (goodIn_of _ (by decide +kernel)) ggX6_restart_X6_begins
set_option maxRecDepth 20000 in
theorem ggX6_restart_X6_registerAt : GoodIn wsX6_restart wsX6_registerAt := goodIn_r _ [19] (by decide +kernel) (by decide +kernel)
set_option maxRecDepth 20000 in
theorem gX6_restart_X6_registerAt : GoodIn wsX6_restart (va_wsS RX6 52 yX6_registerAt wsX6_registerAt) := goodIn_app (goodIn_of _ (by decide +kernel)) ggX6_restart_X6_registerAt
set_option maxRecDepth 20000 in
theorem ggX6_restart_X6_isPoisoned : GoodIn wsX6_restart wsX6_isPoisoned := goodIn_r _ [23, 1, 36, 37, 38, 39, 40, 41, 42, 43] (by decide +kernel) (by decide +kernel)
set_option maxRecDepth 20000 in
theorem gX6_restart_X6_isPoisoned : GoodIn wsX6_restart (wsV RX6 38 RX6 yX6_isPoisoned wsX6_isPoisoned) := goodIn_app (goodIn_of _ (by decide +kernel)) ggX6_restart_X6_isPoisoned
set_option maxRecDepth 20000 in
theorem ggX6_restart_X6_lays : GoodIn wsX6_restart wsX6_lays := goodIn_r _ [27, 1, 36, 37, 38, 39, 40, 41, 42, 43] (by decide +kernel) (by decide +kernel)
set_option maxRecDepth 20000 in
theorem gX6_restart_X6_lays : GoodIn wsX6_restart (wsV RX6 30 RX6 yX6_lays wsX6_lays) := goodIn_app (goodIn_of _ (by decide +kernel)) ggX6_restart_X6_lays
set_option maxRecDepth 20000 in
theorem ggX6_restart_X6_accepts : GoodIn wsX6_restart wsX6_accepts := goodIn_r _ [31, 32, 33, 34, 4, 35, 13, 14, 15, 16, 1, 36, 37, 38, 39, 40, 41, 42, 43] (by decide +kernel) (by decide +kernel)
set_option maxRecDepth 20000 in
theorem gX6_restart_X6_accepts : GoodIn wsX6_restart (wsV RX6 106 RX6 yX6_accepts wsX6_accepts) := goodIn_app (goodIn_of _ (by decide +kernel)) ggX6_restart_X6_accepts
theorem dX6_restart_0 : decode cX6_restart 0 = .ok (.iload_n 1, 1) := by decide +kernel
theorem dX6_restart_1 : decode cX6_restart 1 = .ok (.invokestatic 113, 3) := by decide +kernel
theorem dX6_restart_4 : decode cX6_restart 4 = .ok (.ifCond .ne 5, 3) := by decide +kernel
theorem dX6_restart_7 : decode cX6_restart 7 = .ok (.iconst (-1), 1) := by decide +kernel
theorem dX6_restart_8 : decode cX6_restart 8 = .ok (.ireturn, 1) := by decide +kernel
theorem dX6_restart_9 : decode cX6_restart 9 = .ok (.aload_n 0, 1) := by decide +kernel
theorem dX6_restart_10 : decode cX6_restart 10 = .ok (.invokevirtual 99, 3) := by decide +kernel
theorem dX6_restart_13 : decode cX6_restart 13 = .ok (.istore_n 2, 1) := by decide +kernel
theorem dX6_restart_14 : decode cX6_restart 14 = .ok (.iconst 0, 1) := by decide +kernel
theorem dX6_restart_15 : decode cX6_restart 15 = .ok (.istore_n 3, 1) := by decide +kernel
theorem dX6_restart_16 : decode cX6_restart 16 = .ok (.iconst 0, 1) := by decide +kernel
theorem dX6_restart_17 : decode cX6_restart 17 = .ok (.istore 4, 2) := by decide +kernel
theorem dX6_restart_19 : decode cX6_restart 19 = .ok (.iload 4, 2) := by decide +kernel
theorem dX6_restart_21 : decode cX6_restart 21 = .ok (.iconst 4, 1) := by decide +kernel
theorem dX6_restart_22 : decode cX6_restart 22 = .ok (.if_icmp .ge 46, 3) := by decide +kernel
theorem dX6_restart_25 : decode cX6_restart 25 = .ok (.iload_n 3, 1) := by decide +kernel
theorem dX6_restart_26 : decode cX6_restart 26 = .ok (.aload_n 0, 1) := by decide +kernel
theorem dX6_restart_27 : decode cX6_restart 27 = .ok (.iload_n 2, 1) := by decide +kernel
theorem dX6_restart_28 : decode cX6_restart 28 = .ok (.iload_n 1, 1) := by decide +kernel
