theorem dL_cell_0 : decode cL_cell 0 = .ok (.iload_n 1, 1) := by decide +kernel
theorem dL_cell_1 : decode cL_cell 1 = .ok (.aload_n 0, 1) := by decide +kernel
theorem dL_cell_2 : decode cL_cell 2 = .ok (.arraylength, 1) := by decide +kernel
theorem dL_cell_3 : decode cL_cell 3 = .ok (.if_icmp .ge 9, 3) := by decide +kernel
theorem dL_cell_6 : decode cL_cell 6 = .ok (.aload_n 0, 1) := by decide +kernel
theorem dL_cell_7 : decode cL_cell 7 = .ok (.iload_n 1, 1) := by decide +kernel
theorem dL_cell_8 : decode cL_cell 8 = .ok (.iaload, 1) := by decide +kernel
theorem dL_cell_9 : decode cL_cell 9 = .ok (.goto 11, 3) := by decide +kernel
theorem dL_cell_12 : decode cL_cell 12 = .ok (.ldc 7, 2) := by decide +kernel
theorem dL_cell_14 : decode cL_cell 14 = .ok (.iload_n 1, 1) := by decide +kernel
theorem dL_cell_15 : decode cL_cell 15 = .ok (.sipush 257, 3) := by decide +kernel
theorem dL_cell_18 : decode cL_cell 18 = .ok (.iadd, 1) := by decide +kernel
theorem dL_cell_19 : decode cL_cell 19 = .ok (.imul, 1) := by decide +kernel
theorem dL_cell_20 : decode cL_cell 20 = .ok (.ireturn, 1) := by decide +kernel
theorem dL_up_0 : decode cL_up 0 = .ok (.iload_n 0, 1) := by decide +kernel
theorem dL_up_1 : decode cL_up 1 = .ok (.ldc 8, 2) := by decide +kernel
theorem dL_up_3 : decode cL_up 3 = .ok (.iand, 1) := by decide +kernel
theorem dL_up_4 : decode cL_up 4 = .ok (.iload_n 1, 1) := by decide +kernel
theorem dL_up_5 : decode cL_up 5 = .ok (.irem, 1) := by decide +kernel
theorem dL_up_6 : decode cL_up 6 = .ok (.ireturn, 1) := by decide +kernel
set_option maxRecDepth 20000 in
theorem ggL_told_X5_injections : GoodIn wsL_told wsX5_injections := goodIn_r _ [7, 8, 78, 79, 80, 81, 82, 83, 84, 85, 86, 87, 88, 89, 90, 91, 92] (by decide +kernel) (by decide +kernel)
set_option maxRecDepth 20000 in
theorem gL_told_X5_injections : GoodIn wsL_told (wsV RL 11 RX5 yX5_injections wsX5_injections) := goodIn_app (goodIn_of _ (by decide +kernel)) ggL_told_X5_injections
set_option maxRecDepth 20000 in
theorem ggL_told_X5_faults : GoodIn wsL_told wsX5_faults := goodIn_r _ [12, 8, 78, 79, 80, 81, 82, 83, 84, 85, 86, 87, 88, 89, 90, 91, 92, 93, 94, 95] (by decide +kernel) (by decide +kernel)
set_option maxRecDepth 20000 in
theorem gL_told_X5_faults : GoodIn wsL_told (wsV RL 19 RX5 yX5_faults wsX5_faults) := goodIn_app (goodIn_of _ (by decide +kernel)) ggL_told_X5_faults
set_option maxRecDepth 20000 in
theorem ggL_told_X5_healed : GoodIn wsL_told wsX5_healed := goodIn_r _ [16, 8, 78, 79, 80, 81, 82, 83, 84, 85, 86, 87, 88, 89, 90, 91, 92] (by decide +kernel) (by decide +kernel)
set_option maxRecDepth 20000 in
theorem gL_told_X5_healed : GoodIn wsL_told (wsV RL 22 RX5 yX5_healed wsX5_healed) := goodIn_app (goodIn_of _ (by decide +kernel)) ggL_told_X5_healed
set_option maxRecDepth 20000 in
theorem ggL_told_X5_value : GoodIn wsL_told wsX5_value := goodIn_r _ [20, 8, 21, 22, 6, 23, 78, 79, 80, 81, 82, 83, 84, 85, 86, 87, 88, 89, 90, 91, 92, 96, 97, 98] (by decide +kernel) (by decide +kernel)
set_option maxRecDepth 20000 in
theorem gL_told_X5_value : GoodIn wsL_told (wsV RL 25 RX5 yX5_value wsX5_value) := goodIn_app (goodIn_of _ (by decide +kernel)) ggL_told_X5_value
set_option maxRecDepth 20000 in
theorem ggL_told_X5_origin : GoodIn wsL_told wsX5_origin := goodIn_r _ [27, 8, 21, 22, 6, 23, 78, 79, 80, 81, 82, 83, 84, 85, 86, 87, 88, 89, 90, 91, 92, 96, 97, 98] (by decide +kernel) (by decide +kernel)
set_option maxRecDepth 20000 in
theorem gL_told_X5_origin : GoodIn wsL_told (wsV RL 29 RX5 yX5_origin wsX5_origin) := goodIn_app (goodIn_of _ (by decide +kernel)) ggL_told_X5_origin
set_option maxRecDepth 20000 in
theorem ggL_told_X5_hops : GoodIn wsL_told wsX5_hops := goodIn_r _ [31, 8, 21, 22, 6, 23, 78, 79, 80, 81, 82, 83, 84, 85, 86, 87, 88, 89, 90, 91, 92, 96, 97, 98] (by decide +kernel) (by decide +kernel)
set_option maxRecDepth 20000 in
theorem gL_told_X5_hops : GoodIn wsL_told (wsV RL 32 RX5 yX5_hops wsX5_hops) := goodIn_app (goodIn_of _ (by decide +kernel)) ggL_told_X5_hops
set_option maxRecDepth 20000 in
theorem ggL_told_X5_mirrorValue : GoodIn wsL_told wsX5_mirrorValue := goodIn_r _ [35, 8, 21, 22, 6, 23, 36, 37, 38, 39, 40, 78, 79, 80, 81, 82, 83, 84, 85, 86, 87, 88, 89, 90, 91, 92, 96, 97, 98] (by decide +kernel) (by decide +kernel)
set_option maxRecDepth 20000 in
theorem gL_told_X5_mirrorValue : GoodIn wsL_told (wsV RL 35 RX5 yX5_mirrorValue wsX5_mirrorValue) := goodIn_app (goodIn_of _ (by decide +kernel)) ggL_told_X5_mirrorValue
set_option maxRecDepth 20000 in
theorem ggL_told_X5_mirrorOrigin : GoodIn wsL_told wsX5_mirrorOrigin := goodIn_r _ [44, 8, 21, 22, 6, 23, 36, 37, 38, 39, 40, 78, 79, 80, 81, 82, 83, 84, 85, 86, 87, 88, 89, 90, 91, 92, 96, 97, 98] (by decide +kernel) (by decide +kernel)
set_option maxRecDepth 20000 in
theorem gL_told_X5_mirrorOrigin : GoodIn wsL_told (wsV RL 38 RX5 yX5_mirrorOrigin wsX5_mirrorOrigin) := goodIn_app (goodIn_of _ (by decide +kernel)) ggL_told_X5_mirrorOrigin
set_option maxRecDepth 20000 in
theorem ggL_told_X5_log : GoodIn wsL_told wsX5_log := goodIn_r _ [48, 8, 78, 79, 80, 81, 82, 83, 84, 85, 86, 87, 88, 89, 90, 91, 92, 93, 94, 95] (by decide +kernel) (by decide +kernel)
set_option maxRecDepth 20000 in
theorem gL_told_X5_log : GoodIn wsL_told (wsV RL 41 RX5 yX5_log wsX5_log) := goodIn_app (goodIn_of _ (by decide +kernel)) ggL_told_X5_log
set_option maxRecDepth 20000 in
theorem ggL_told_X5_register : GoodIn wsL_told wsX5_register := goodIn_r _ [52, 8, 53, 54, 6, 55, 56, 57, 58, 59, 60, 61, 78, 79, 80, 81, 82, 83, 84, 85, 86, 87, 88, 89, 90, 91, 92, 96, 97, 98] (by decide +kernel) (by decide +kernel)
set_option maxRecDepth 20000 in
theorem gL_told_X5_register : GoodIn wsL_told (wsV RL 45 RX5 yX5_register wsX5_register) := goodIn_app (goodIn_of _ (by decide +kernel)) ggL_told_X5_register
set_option maxRecDepth 20000 in
theorem ggL_told_X5_registerOrigin : GoodIn wsL_told wsX5_registerOrigin := goodIn_r _ [65, 8, 53, 54, 6, 55, 56, 57, 58, 59, 60, 61, 78, 79, 80, 81, 82, 83, 84, 85, 86, 87, 88, 89, 90, 91, 92, 96, 97, 98] (by decide +kernel) (by decide +kernel)
set_option maxRecDepth 20000 in
theorem gL_told_X5_registerOrigin : GoodIn wsL_told (wsV RL 48 RX5 yX5_registerOrigin wsX5_registerOrigin) := goodIn_app (goodIn_of _ (by decide +kernel)) ggL_told_X5_registerOrigin
set_option maxRecDepth 20000 in
theorem ggL_told_X5_registerHops : GoodIn wsL_told wsX5_registerHops := goodIn_r _ [69, 8, 53, 54, 6, 55, 56, 57, 58, 59, 60, 61, 78, 79, 80, 81, 82, 83, 84, 85, 86, 87, 88, 89, 90, 91, 92, 96, 97, 98] (by decide +kernel) (by decide +kernel)
set_option maxRecDepth 20000 in
theorem gL_told_X5_registerHops : GoodIn wsL_told (wsV RL 51 RX5 yX5_registerHops wsX5_registerHops) := goodIn_app (goodIn_of _ (by decide +kernel)) ggL_told_X5_registerHops
set_option maxRecDepth 20000 in
theorem ggL_told_X5_mode : GoodIn wsL_told wsX5_mode := goodIn_r _ [73, 8, 53, 54, 6, 55, 78, 79, 80, 81, 82, 83, 84, 85, 86, 87, 88, 89, 90, 91, 92] (by decide +kernel) (by decide +kernel)
set_option maxRecDepth 20000 in
theorem gL_told_X5_mode : GoodIn wsL_told (wsV RL 54 RX5 yX5_mode wsX5_mode) := goodIn_app (goodIn_of _ (by decide +kernel)) ggL_told_X5_mode
set_option maxRecDepth 20000 in
theorem ggL_told_X5_stopped : GoodIn wsL_told wsX5_stopped := goodIn_r _ [77, 8, 53, 54, 6, 55, 78, 79, 80, 81, 82, 83, 84, 85, 86, 87, 88, 89, 90, 91, 92] (by decide +kernel) (by decide +kernel)
set_option maxRecDepth 20000 in
theorem gL_told_X5_stopped : GoodIn wsL_told (wsV RL 57 RX5 yX5_stopped wsX5_stopped) := goodIn_app (goodIn_of _ (by decide +kernel)) ggL_told_X5_stopped
theorem dL_told_0 : decode cL_told 0 = .ok (.ldc2_w 9, 3) := by decide +kernel
theorem dL_told_3 : decode cL_told 3 = .ok (.aload_n 0, 1) := by decide +kernel
theorem dL_told_4 : decode cL_told 4 = .ok (.invokevirtual 11, 3) := by decide +kernel
theorem dL_told_7 : decode cL_told 7 = .ok (.i2l, 1) := by decide +kernel
theorem dL_told_8 : decode cL_told 8 = .ok (.lmul, 1) := by decide +kernel
theorem dL_told_9 : decode cL_told 9 = .ok (.ldc2_w 17, 3) := by decide +kernel
theorem dL_told_12 : decode cL_told 12 = .ok (.aload_n 0, 1) := by decide +kernel
theorem dL_told_13 : decode cL_told 13 = .ok (.invokevirtual 19, 3) := by decide +kernel
theorem dL_told_16 : decode cL_told 16 = .ok (.i2l, 1) := by decide +kernel
theorem dL_told_17 : decode cL_told 17 = .ok (.lmul, 1) := by decide +kernel
theorem dL_told_18 : decode cL_told 18 = .ok (.ladd, 1) := by decide +kernel
theorem dL_told_19 : decode cL_told 19 = .ok (.aload_n 0, 1) := by decide +kernel
theorem dL_told_20 : decode cL_told 20 = .ok (.invokevirtual 22, 3) := by decide +kernel
theorem dL_told_23 : decode cL_told 23 = .ok (.i2l, 1) := by decide +kernel
theorem dL_told_24 : decode cL_told 24 = .ok (.ladd, 1) := by decide +kernel
theorem dL_told_25 : decode cL_told 25 = .ok (.lstore_n 1, 1) := by decide +kernel
theorem dL_told_26 : decode cL_told 26 = .ok (.iconst 0, 1) := by decide +kernel
theorem dL_told_27 : decode cL_told 27 = .ok (.istore_n 3, 1) := by decide +kernel
theorem dL_told_28 : decode cL_told 28 = .ok (.iload_n 3, 1) := by decide +kernel
theorem dL_told_29 : decode cL_told 29 = .ok (.bipush 32, 2) := by decide +kernel
theorem dL_told_31 : decode cL_told 31 = .ok (.if_icmp .ge 84, 3) := by decide +kernel
theorem dL_told_34 : decode cL_told 34 = .ok (.ldc2_w 17, 3) := by decide +kernel
theorem dL_told_37 : decode cL_told 37 = .ok (.ldc2_w 17, 3) := by decide +kernel
theorem dL_told_40 : decode cL_told 40 = .ok (.ldc2_w 17, 3) := by decide +kernel
theorem dL_told_43 : decode cL_told 43 = .ok (.lload_n 1, 1) := by decide +kernel
theorem dL_told_44 : decode cL_told 44 = .ok (.lmul, 1) := by decide +kernel
theorem dL_told_45 : decode cL_told 45 = .ok (.aload_n 0, 1) := by decide +kernel
theorem dL_told_46 : decode cL_told 46 = .ok (.iload_n 3, 1) := by decide +kernel
theorem dL_told_47 : decode cL_told 47 = .ok (.invokevirtual 25, 3) := by decide +kernel
theorem dL_told_50 : decode cL_told 50 = .ok (.i2l, 1) := by decide +kernel
theorem dL_told_51 : decode cL_told 51 = .ok (.ladd, 1) := by decide +kernel
theorem dL_told_52 : decode cL_told 52 = .ok (.lmul, 1) := by decide +kernel
theorem dL_told_53 : decode cL_told 53 = .ok (.aload_n 0, 1) := by decide +kernel
theorem dL_told_54 : decode cL_told 54 = .ok (.iload_n 3, 1) := by decide +kernel
theorem dL_told_55 : decode cL_told 55 = .ok (.invokevirtual 29, 3) := by decide +kernel
theorem dL_told_58 : decode cL_told 58 = .ok (.i2l, 1) := by decide +kernel
theorem dL_told_59 : decode cL_told 59 = .ok (.ladd, 1) := by decide +kernel
theorem dL_told_60 : decode cL_told 60 = .ok (.lmul, 1) := by decide +kernel
theorem dL_told_61 : decode cL_told 61 = .ok (.aload_n 0, 1) := by decide +kernel
theorem dL_told_62 : decode cL_told 62 = .ok (.iload_n 3, 1) := by decide +kernel
theorem dL_told_63 : decode cL_told 63 = .ok (.invokevirtual 32, 3) := by decide +kernel
theorem dL_told_66 : decode cL_told 66 = .ok (.i2l, 1) := by decide +kernel
theorem dL_told_67 : decode cL_told 67 = .ok (.ladd, 1) := by decide +kernel
theorem dL_told_68 : decode cL_told 68 = .ok (.lstore_n 1, 1) := by decide +kernel
theorem dL_told_69 : decode cL_told 69 = .ok (.ldc2_w 17, 3) := by decide +kernel
theorem dL_told_72 : decode cL_told 72 = .ok (.ldc2_w 17, 3) := by decide +kernel
theorem dL_told_75 : decode cL_told 75 = .ok (.ldc2_w 17, 3) := by decide +kernel
theorem dL_told_78 : decode cL_told 78 = .ok (.lload_n 1, 1) := by decide +kernel
theorem dL_told_79 : decode cL_told 79 = .ok (.lmul, 1) := by decide +kernel
theorem dL_told_80 : decode cL_told 80 = .ok (.aload_n 0, 1) := by decide +kernel
theorem dL_told_81 : decode cL_told 81 = .ok (.iload_n 3, 1) := by decide +kernel
theorem dL_told_82 : decode cL_told 82 = .ok (.invokevirtual 35, 3) := by decide +kernel
theorem dL_told_85 : decode cL_told 85 = .ok (.i2l, 1) := by decide +kernel
theorem dL_told_86 : decode cL_told 86 = .ok (.ladd, 1) := by decide +kernel
theorem dL_told_87 : decode cL_told 87 = .ok (.lmul, 1) := by decide +kernel
theorem dL_told_88 : decode cL_told 88 = .ok (.aload_n 0, 1) := by decide +kernel
theorem dL_told_89 : decode cL_told 89 = .ok (.iload_n 3, 1) := by decide +kernel
theorem dL_told_90 : decode cL_told 90 = .ok (.invokevirtual 38, 3) := by decide +kernel
theorem dL_told_93 : decode cL_told 93 = .ok (.i2l, 1) := by decide +kernel
theorem dL_told_94 : decode cL_told 94 = .ok (.ladd, 1) := by decide +kernel
theorem dL_told_95 : decode cL_told 95 = .ok (.lmul, 1) := by decide +kernel
theorem dL_told_96 : decode cL_told 96 = .ok (.aload_n 0, 1) := by decide +kernel
theorem dL_told_97 : decode cL_told 97 = .ok (.iload_n 3, 1) := by decide +kernel
theorem dL_told_98 : decode cL_told 98 = .ok (.iconst 4, 1) := by decide +kernel
theorem dL_told_99 : decode cL_told 99 = .ok (.idiv, 1) := by decide +kernel
theorem dL_told_100 : decode cL_told 100 = .ok (.iload_n 3, 1) := by decide +kernel
theorem dL_told_101 : decode cL_told 101 = .ok (.iconst 4, 1) := by decide +kernel
theorem dL_told_102 : decode cL_told 102 = .ok (.irem, 1) := by decide +kernel
theorem dL_told_103 : decode cL_told 103 = .ok (.invokevirtual 41, 3) := by decide +kernel
theorem dL_told_106 : decode cL_told 106 = .ok (.i2l, 1) := by decide +kernel
theorem dL_told_107 : decode cL_told 107 = .ok (.ladd, 1) := by decide +kernel
theorem dL_told_108 : decode cL_told 108 = .ok (.lstore_n 1, 1) := by decide +kernel
theorem dL_told_109 : decode cL_told 109 = .ok (.iinc 3 1, 3) := by decide +kernel
theorem dL_told_112 : decode cL_told 112 = .ok (.goto (-84), 3) := by decide +kernel
theorem dL_told_115 : decode cL_told 115 = .ok (.iconst 0, 1) := by decide +kernel
theorem dL_told_116 : decode cL_told 116 = .ok (.istore_n 3, 1) := by decide +kernel
theorem dL_told_117 : decode cL_told 117 = .ok (.iload_n 3, 1) := by decide +kernel
theorem dL_told_118 : decode cL_told 118 = .ok (.bipush 16, 2) := by decide +kernel
theorem dL_told_120 : decode cL_told 120 = .ok (.if_icmp .ge 59, 3) := by decide +kernel
theorem dL_told_123 : decode cL_told 123 = .ok (.ldc2_w 17, 3) := by decide +kernel
theorem dL_told_126 : decode cL_told 126 = .ok (.ldc2_w 17, 3) := by decide +kernel
theorem dL_told_129 : decode cL_told 129 = .ok (.ldc2_w 17, 3) := by decide +kernel
theorem dL_told_132 : decode cL_told 132 = .ok (.lload_n 1, 1) := by decide +kernel
theorem dL_told_133 : decode cL_told 133 = .ok (.lmul, 1) := by decide +kernel
theorem dL_told_134 : decode cL_told 134 = .ok (.aload_n 0, 1) := by decide +kernel
theorem dL_told_135 : decode cL_told 135 = .ok (.iload_n 3, 1) := by decide +kernel
theorem dL_told_136 : decode cL_told 136 = .ok (.iconst 4, 1) := by decide +kernel
theorem dL_told_137 : decode cL_told 137 = .ok (.idiv, 1) := by decide +kernel
theorem dL_told_138 : decode cL_told 138 = .ok (.iload_n 3, 1) := by decide +kernel
theorem dL_told_139 : decode cL_told 139 = .ok (.iconst 4, 1) := by decide +kernel
theorem dL_told_140 : decode cL_told 140 = .ok (.irem, 1) := by decide +kernel
theorem dL_told_141 : decode cL_told 141 = .ok (.invokevirtual 45, 3) := by decide +kernel
theorem dL_told_144 : decode cL_told 144 = .ok (.i2l, 1) := by decide +kernel
theorem dL_told_145 : decode cL_told 145 = .ok (.ladd, 1) := by decide +kernel
theorem dL_told_146 : decode cL_told 146 = .ok (.lmul, 1) := by decide +kernel
theorem dL_told_147 : decode cL_told 147 = .ok (.aload_n 0, 1) := by decide +kernel
theorem dL_told_148 : decode cL_told 148 = .ok (.iload_n 3, 1) := by decide +kernel
theorem dL_told_149 : decode cL_told 149 = .ok (.iconst 4, 1) := by decide +kernel
theorem dL_told_150 : decode cL_told 150 = .ok (.idiv, 1) := by decide +kernel
theorem dL_told_151 : decode cL_told 151 = .ok (.iload_n 3, 1) := by decide +kernel
theorem dL_told_152 : decode cL_told 152 = .ok (.iconst 4, 1) := by decide +kernel
theorem dL_told_153 : decode cL_told 153 = .ok (.irem, 1) := by decide +kernel
theorem dL_told_154 : decode cL_told 154 = .ok (.invokevirtual 48, 3) := by decide +kernel
theorem dL_told_157 : decode cL_told 157 = .ok (.i2l, 1) := by decide +kernel
theorem dL_told_158 : decode cL_told 158 = .ok (.ladd, 1) := by decide +kernel
theorem dL_told_159 : decode cL_told 159 = .ok (.lmul, 1) := by decide +kernel
theorem dL_told_160 : decode cL_told 160 = .ok (.aload_n 0, 1) := by decide +kernel
theorem dL_told_161 : decode cL_told 161 = .ok (.iload_n 3, 1) := by decide +kernel
theorem dL_told_162 : decode cL_told 162 = .ok (.iconst 4, 1) := by decide +kernel
theorem dL_told_163 : decode cL_told 163 = .ok (.idiv, 1) := by decide +kernel
theorem dL_told_164 : decode cL_told 164 = .ok (.iload_n 3, 1) := by decide +kernel
theorem dL_told_165 : decode cL_told 165 = .ok (.iconst 4, 1) := by decide +kernel
theorem dL_told_166 : decode cL_told 166 = .ok (.irem, 1) := by decide +kernel
theorem dL_told_167 : decode cL_told 167 = .ok (.invokevirtual 51, 3) := by decide +kernel
theorem dL_told_170 : decode cL_told 170 = .ok (.i2l, 1) := by decide +kernel
theorem dL_told_171 : decode cL_told 171 = .ok (.ladd, 1) := by decide +kernel
theorem dL_told_172 : decode cL_told 172 = .ok (.lstore_n 1, 1) := by decide +kernel
theorem dL_told_173 : decode cL_told 173 = .ok (.iinc 3 1, 3) := by decide +kernel
theorem dL_told_176 : decode cL_told 176 = .ok (.goto (-59), 3) := by decide +kernel
theorem dL_told_179 : decode cL_told 179 = .ok (.iconst 0, 1) := by decide +kernel
theorem dL_told_180 : decode cL_told 180 = .ok (.istore_n 3, 1) := by decide +kernel
theorem dL_told_181 : decode cL_told 181 = .ok (.iload_n 3, 1) := by decide +kernel
theorem dL_told_182 : decode cL_told 182 = .ok (.iconst 4, 1) := by decide +kernel
theorem dL_told_183 : decode cL_told 183 = .ok (.if_icmp .ge 33, 3) := by decide +kernel
theorem dL_told_186 : decode cL_told 186 = .ok (.ldc2_w 17, 3) := by decide +kernel
theorem dL_told_189 : decode cL_told 189 = .ok (.ldc2_w 17, 3) := by decide +kernel
theorem dL_told_192 : decode cL_told 192 = .ok (.lload_n 1, 1) := by decide +kernel
theorem dL_told_193 : decode cL_told 193 = .ok (.lmul, 1) := by decide +kernel
theorem dL_told_194 : decode cL_told 194 = .ok (.aload_n 0, 1) := by decide +kernel
theorem dL_told_195 : decode cL_told 195 = .ok (.iload_n 3, 1) := by decide +kernel
theorem dL_told_196 : decode cL_told 196 = .ok (.invokevirtual 54, 3) := by decide +kernel
theorem dL_told_199 : decode cL_told 199 = .ok (.i2l, 1) := by decide +kernel
theorem dL_told_200 : decode cL_told 200 = .ok (.ladd, 1) := by decide +kernel
theorem dL_told_201 : decode cL_told 201 = .ok (.lmul, 1) := by decide +kernel
theorem dL_told_202 : decode cL_told 202 = .ok (.aload_n 0, 1) := by decide +kernel
theorem dL_told_203 : decode cL_told 203 = .ok (.iload_n 3, 1) := by decide +kernel
theorem dL_told_204 : decode cL_told 204 = .ok (.invokevirtual 57, 3) := by decide +kernel
theorem dL_told_207 : decode cL_told 207 = .ok (.i2l, 1) := by decide +kernel
theorem dL_told_208 : decode cL_told 208 = .ok (.ladd, 1) := by decide +kernel
theorem dL_told_209 : decode cL_told 209 = .ok (.lstore_n 1, 1) := by decide +kernel
theorem dL_told_210 : decode cL_told 210 = .ok (.iinc 3 1, 3) := by decide +kernel
theorem dL_told_213 : decode cL_told 213 = .ok (.goto (-32), 3) := by decide +kernel
theorem dL_told_216 : decode cL_told 216 = .ok (.lload_n 1, 1) := by decide +kernel
theorem dL_told_217 : decode cL_told 217 = .ok (.lreturn, 1) := by decide +kernel
theorem dL_isError_0 : decode cL_isError 0 = .ok (.iload_n 0, 1) := by decide +kernel
theorem dL_isError_1 : decode cL_isError 1 = .ok (.ifCond .ge 13, 3) := by decide +kernel
theorem dL_isError_4 : decode cL_isError 4 = .ok (.iload_n 0, 1) := by decide +kernel
theorem dL_isError_5 : decode cL_isError 5 = .ok (.bipush (-6), 2) := by decide +kernel
theorem dL_isError_7 : decode cL_isError 7 = .ok (.if_icmp .le 7, 3) := by decide +kernel
theorem dL_isError_10 : decode cL_isError 10 = .ok (.iconst 1, 1) := by decide +kernel
theorem dL_isError_11 : decode cL_isError 11 = .ok (.goto 4, 3) := by decide +kernel
theorem dL_isError_14 : decode cL_isError 14 = .ok (.iconst 0, 1) := by decide +kernel
theorem dL_isError_15 : decode cL_isError 15 = .ok (.ireturn, 1) := by decide +kernel
set_option maxRecDepth 20000 in
theorem ggL_act_L_up : GoodIn wsL_act wsL_up := goodIn_r _ [5, 6] (by decide +kernel) (by decide +kernel)
set_option maxRecDepth 20000 in
theorem gL_act_L_up : GoodIn wsL_act (va_wsS RL 60 yL_up wsL_up) := goodIn_app (goodIn_of _ (by decide +kernel)) ggL_act_L_up
set_option maxRecDepth 20000 in
theorem ggL_act_X5_inject : GoodIn wsL_act wsX5_inject := goodIn_r _ [11, 12, 13, 14, 15, 16, 17, 18, 19, 20, 21, 22, 23, 24, 25, 26, 27, 28, 29, 30, 31, 32, 33, 34, 35, 36, 37, 38, 39, 40, 41, 42, 43, 44, 45, 46, 47, 48, 49, 50, 51, 52, 53, 54, 55, 56, 57, 58, 59, 60, 61, 62, 63, 64, 65, 66, 10, 67, 68, 69, 70, 71, 72, 73, 74, 75, 76, 77, 78, 79, 80, 81, 295, 296, 297, 298, 299, 300, 301, 302, 303, 304, 305, 306, 307, 308, 309, 310, 311, 312, 313, 314, 315, 316, 317, 318] (by decide +kernel) (by decide +kernel)
set_option maxRecDepth 20000 in
theorem gL_act_X5_inject : GoodIn wsL_act (wsV RL 65 RX5 yX5_inject wsX5_inject) := goodIn_app (goodIn_of _ (by decide +kernel)) ggL_act_X5_inject
set_option maxRecDepth 20000 in
theorem ggL_act_X5_copyBlock : GoodIn wsL_act wsX5_copyBlock := goodIn_r _ [85, 12, 13, 86, 14, 15, 16, 17, 18, 19, 20, 21, 22, 23, 24, 25, 26, 27, 28, 29, 30, 31, 32, 33, 34, 35, 36, 37, 38, 39, 40, 41, 42, 43, 44, 45, 46, 47, 48, 49, 50, 51, 52, 53, 54, 55, 56, 57, 58, 59, 60, 61, 87, 88, 89, 90, 66, 10, 67, 91, 92, 93, 94, 95, 96, 97, 98, 99, 100, 101, 102, 103, 104, 105, 106, 107, 108, 109, 110, 111, 112, 113, 69, 70, 71, 114, 115, 116, 117, 118, 119, 120, 121, 122, 123, 124, 125, 126, 127, 128, 129, 130, 131, 132, 133, 134, 72, 73, 74, 75, 76, 77, 78, 79, 80, 81, 295, 296, 297, 298, 299, 300, 301, 302, 303, 304, 305, 306, 307, 308, 309, 310, 311, 312, 313, 314, 315, 316, 317, 318] (by decide +kernel) (by decide +kernel)
set_option maxRecDepth 20000 in
theorem gL_act_X5_copyBlock : GoodIn wsL_act (wsV RL 68 RX5 yX5_copyBlock wsX5_copyBlock) := goodIn_app (goodIn_of _ (by decide +kernel)) ggL_act_X5_copyBlock
set_option maxRecDepth 20000 in
theorem ggL_act_X5_fill : GoodIn wsL_act wsX5_fill := goodIn_r _ [138, 12, 13, 14, 15, 16, 17, 18, 19, 20, 21, 22, 23, 24, 25, 26, 27, 28, 29, 30, 31, 32, 33, 34, 35, 36, 37, 38, 39, 40, 41, 42, 43, 44, 45, 46, 47, 48, 49, 50, 51, 52, 53, 54, 55, 56, 57, 58, 59, 60, 61, 139, 140, 141, 142, 66, 10, 67, 91, 92, 143, 144, 145, 131, 132, 133, 134, 126, 102, 103, 104, 146, 147, 148, 149, 113, 69, 70, 71, 127, 128, 129, 130, 105, 106, 107, 108, 109, 110, 111, 112, 72, 73, 74, 75, 76, 77, 78, 79, 80, 81, 295, 296, 297, 298, 299, 300, 301, 302, 303, 304, 305, 306, 307, 308, 309, 310, 311, 312, 313, 314, 315, 316, 317, 318] (by decide +kernel) (by decide +kernel)
set_option maxRecDepth 20000 in
theorem gL_act_X5_fill : GoodIn wsL_act (wsV RL 73 RX5 yX5_fill wsX5_fill) := goodIn_app (goodIn_of _ (by decide +kernel)) ggL_act_X5_fill
set_option maxRecDepth 20000 in
theorem ggL_act_X5_setMirror : GoodIn wsL_act wsX5_setMirror := goodIn_r _ [153, 12, 13, 14, 15, 16, 17, 18, 19, 20, 21, 22, 23, 24, 25, 26, 27, 28, 29, 30, 31, 32, 33, 34, 35, 36, 37, 38, 39, 40, 41, 42, 43, 44, 45, 46, 47, 48, 49, 50, 51, 52, 53, 54, 55, 56, 57, 58, 59, 60, 61, 154, 155, 156, 157, 158, 10, 159, 127, 128, 129, 130, 105, 106, 107, 108, 109, 110, 111, 112, 113, 69, 70, 71, 160, 161, 162, 163, 72, 73, 74, 75, 76, 77, 78, 79, 80, 81, 295, 296, 297, 298, 299, 300, 301, 302, 303, 304, 305, 306, 307, 308, 309, 310, 311, 312, 313, 314, 315, 316, 317, 318] (by decide +kernel) (by decide +kernel)
set_option maxRecDepth 20000 in
theorem gL_act_X5_setMirror : GoodIn wsL_act (wsV RL 76 RX5 yX5_setMirror wsX5_setMirror) := goodIn_app (goodIn_of _ (by decide +kernel)) ggL_act_X5_setMirror
set_option maxRecDepth 20000 in
theorem ggL_act_X5_scrub : GoodIn wsL_act wsX5_scrub := goodIn_r _ [167, 12, 13, 14, 15, 16, 17, 18, 19, 20, 21, 22, 23, 24, 25, 26, 27, 28, 29, 30, 31, 32, 33, 34, 35, 36, 37, 38, 39, 40, 41, 42, 43, 44, 45, 46, 47, 48, 49, 50, 51, 52, 53, 54, 55, 56, 57, 58, 59, 60, 61, 168, 169, 170, 171, 158, 10, 159, 93, 94, 95, 96, 97, 98, 99, 100, 101, 102, 103, 104, 105, 106, 107, 108, 109, 110, 111, 112, 113, 69, 70, 71, 72, 73, 74, 75, 76, 77, 78, 79, 80, 81, 295, 296, 297, 298, 299, 300, 301, 302, 303, 304, 305, 306, 307, 308, 309, 310, 311, 312, 313, 314, 315, 316, 317, 318] (by decide +kernel) (by decide +kernel)
set_option maxRecDepth 20000 in
theorem gL_act_X5_scrub : GoodIn wsL_act (wsV RL 80 RX5 yX5_scrub wsX5_scrub) := goodIn_app (goodIn_of _ (by decide +kernel)) ggL_act_X5_scrub
set_option maxRecDepth 20000 in
theorem ggL_act_X5_setMode : GoodIn wsL_act wsX5_setMode := goodIn_r _ [175, 12, 13, 14, 15, 16, 17, 18, 19, 20, 21, 22, 23, 24, 25, 26, 27, 28, 29, 30, 31, 32, 33, 34, 35, 36, 37, 38, 39, 40, 41, 42, 43, 44, 45, 46, 47, 48, 49, 50, 51, 52, 53, 54, 55, 56, 57, 58, 59, 60, 61, 176, 177, 178, 179, 180, 10, 181, 72, 73, 74, 75, 76, 77, 78, 79, 80, 81, 295, 296, 297, 298, 299, 300, 301, 302, 303, 304, 305, 306, 307, 308, 309, 310, 311, 312, 313, 314, 315, 316, 317, 318] (by decide +kernel) (by decide +kernel)
set_option maxRecDepth 20000 in
theorem gL_act_X5_setMode : GoodIn wsL_act (wsV RL 83 RX5 yX5_setMode wsX5_setMode) := goodIn_app (goodIn_of _ (by decide +kernel)) ggL_act_X5_setMode
set_option maxRecDepth 20000 in
theorem ggL_act_X5_restart : GoodIn wsL_act wsX5_restart := goodIn_r _ [185, 12, 13, 14, 15, 16, 17, 18, 19, 20, 21, 22, 23, 24, 25, 26, 27, 28, 29, 30, 31, 32, 33, 34, 35, 36, 37, 38, 39, 40, 41, 42, 43, 44, 45, 46, 47, 48, 49, 50, 51, 52, 53, 54, 55, 56, 57, 58, 59, 60, 61, 186, 187, 188, 189, 180, 10, 181, 190, 191, 131, 132, 133, 134, 126, 102, 103, 104, 146, 147, 148, 149, 113, 69, 70, 71, 72, 73, 74, 75, 76, 77, 78, 79, 80, 81, 295, 296, 297, 298, 299, 300, 301, 302, 303, 304, 305, 306, 307, 308, 309, 310, 311, 312, 313, 314, 315, 316, 317, 318] (by decide +kernel) (by decide +kernel)
set_option maxRecDepth 20000 in
theorem gL_act_X5_restart : GoodIn wsL_act (wsV RL 86 RX5 yX5_restart wsX5_restart) := goodIn_app (goodIn_of _ (by decide +kernel)) ggL_act_X5_restart
set_option maxRecDepth 20000 in
theorem ggL_act_X5_setRegister : GoodIn wsL_act wsX5_setRegister := goodIn_r _ [195, 12, 13, 14, 15, 16, 17, 18, 19, 20, 21, 22, 23, 24, 25, 26, 27, 28, 29, 30, 31, 32, 33, 34, 35, 36, 37, 38, 39, 40, 41, 42, 43, 44, 45, 46, 47, 48, 49, 50, 51, 52, 53, 54, 55, 56, 57, 58, 59, 60, 61, 196, 197, 198, 199, 180, 10, 181, 200, 201, 143, 144, 145, 190, 191, 146, 147, 148, 149, 113, 69, 70, 71, 72, 73, 74, 75, 76, 77, 78, 79, 80, 81, 295, 296, 297, 298, 299, 300, 301, 302, 303, 304, 305, 306, 307, 308, 309, 310, 311, 312, 313, 314, 315, 316, 317, 318] (by decide +kernel) (by decide +kernel)
set_option maxRecDepth 20000 in
theorem gL_act_X5_setRegister : GoodIn wsL_act (wsV RL 89 RX5 yX5_setRegister wsX5_setRegister) := goodIn_app (goodIn_of _ (by decide +kernel)) ggL_act_X5_setRegister
set_option maxRecDepth 20000 in
theorem ggL_act_X5_load : GoodIn wsL_act wsX5_load := goodIn_r _ [205, 12, 13, 14, 15, 16, 17, 18, 19, 20, 21, 22, 23, 24, 25, 26, 27, 28, 29, 30, 31, 32, 33, 34, 35, 36, 37, 38, 39, 40, 41, 42, 43, 44, 45, 46, 47, 48, 49, 50, 51, 52, 53, 54, 55, 56, 57, 58, 59, 60, 61, 206, 207, 208, 209, 180, 10, 181, 200, 201, 66, 67, 190, 191, 210, 211, 212, 213, 93, 94, 95, 96, 97, 98, 99, 100, 101, 102, 103, 104, 105, 106, 107, 108, 109, 110, 111, 112, 113, 69, 70, 71, 118, 119, 120, 121, 122, 123, 124, 125, 126, 72, 73, 74, 75, 76, 77, 78, 79, 80, 81, 295, 296, 297, 298, 299, 300, 301, 302, 303, 304, 305, 306, 307, 308, 309, 310, 311, 312, 313, 314, 315, 316, 317, 318] (by decide +kernel) (by decide +kernel)
set_option maxRecDepth 20000 in
theorem gL_act_X5_load : GoodIn wsL_act (wsV RL 92 RX5 yX5_load wsX5_load) := goodIn_app (goodIn_of _ (by decide +kernel)) ggL_act_X5_load
set_option maxRecDepth 20000 in
theorem ggL_act_X5_loadByte : GoodIn wsL_act wsX5_loadByte := goodIn_r _ [217, 12, 13, 14, 15, 16, 17, 18, 19, 20, 21, 22, 23, 24, 25, 26, 27, 28, 29, 30, 31, 32, 33, 34, 35, 36, 37, 38, 39, 40, 41, 42, 43, 44, 45, 46, 47, 48, 49, 50, 51, 52, 53, 54, 55, 56, 57, 58, 59, 60, 61, 218, 219, 220, 221, 180, 10, 181, 200, 201, 66, 67, 222, 223, 190, 191, 210, 211, 212, 213, 93, 94, 95, 96, 97, 98, 99, 100, 101, 102, 103, 104, 105, 106, 107, 108, 109, 110, 111, 112, 113, 69, 70, 71, 118, 119, 120, 121, 122, 123, 124, 125, 126, 224, 225, 72, 73, 74, 75, 76, 77, 78, 79, 80, 81, 295, 296, 297, 298, 299, 300, 301, 302, 303, 304, 305, 306, 307, 308, 309, 310, 311, 312, 313, 314, 315, 316, 317, 318] (by decide +kernel) (by decide +kernel)
set_option maxRecDepth 20000 in
theorem gL_act_X5_loadByte : GoodIn wsL_act (wsV RL 95 RX5 yX5_loadByte wsX5_loadByte) := goodIn_app (goodIn_of _ (by decide +kernel)) ggL_act_X5_loadByte
set_option maxRecDepth 20000 in
theorem ggL_act_X5_store : GoodIn wsL_act wsX5_store := goodIn_r _ [229, 12, 13, 14, 15, 16, 17, 18, 19, 20, 21, 22, 23, 24, 25, 26, 27, 28, 29, 30, 31, 32, 33, 34, 35, 36, 37, 38, 39, 40, 41, 42, 43, 44, 45, 46, 47, 48, 49, 50, 51, 52, 53, 54, 55, 56, 57, 58, 59, 60, 61, 230, 231, 232, 233, 180, 10, 181, 200, 201, 66, 67, 190, 191, 114, 115, 116, 117, 118, 119, 120, 121, 122, 123, 124, 125, 126, 102, 103, 104, 113, 69, 70, 71, 127, 128, 129, 130, 105, 106, 107, 108, 109, 110, 111, 112, 101, 72, 73, 74, 75, 76, 77, 78, 79, 80, 81, 295, 296, 297, 298, 299, 300, 301, 302, 303, 304, 305, 306, 307, 308, 309, 310, 311, 312, 313, 314, 315, 316, 317, 318] (by decide +kernel) (by decide +kernel)
set_option maxRecDepth 20000 in
theorem gL_act_X5_store : GoodIn wsL_act (wsV RL 99 RX5 yX5_store wsX5_store) := goodIn_app (goodIn_of _ (by decide +kernel)) ggL_act_X5_store
set_option maxRecDepth 20000 in
theorem ggL_act_X5_storeByte : GoodIn wsL_act wsX5_storeByte := goodIn_r _ [237, 12, 13, 14, 15, 16, 17, 18, 19, 20, 21, 22, 23, 24, 25, 26, 27, 28, 29, 30, 31, 32, 33, 34, 35, 36, 37, 38, 39, 40, 41, 42, 43, 44, 45, 46, 47, 48, 49, 50, 51, 52, 53, 54, 55, 56, 57, 58, 59, 60, 61, 238, 239, 240, 241, 180, 10, 181, 200, 201, 66, 67, 222, 223, 93, 94, 95, 96, 97, 98, 99, 100, 101, 102, 103, 104, 105, 106, 107, 108, 109, 110, 111, 112, 113, 69, 70, 71, 190, 191, 224, 225, 118, 119, 120, 121, 122, 123, 124, 125, 126, 127, 128, 129, 130, 72, 73, 74, 75, 76, 77, 78, 79, 80, 81, 295, 296, 297, 298, 299, 300, 301, 302, 303, 304, 305, 306, 307, 308, 309, 310, 311, 312, 313, 314, 315, 316, 317, 318] (by decide +kernel) (by decide +kernel)
set_option maxRecDepth 20000 in
theorem gL_act_X5_storeByte : GoodIn wsL_act (wsV RL 102 RX5 yX5_storeByte wsX5_storeByte) := goodIn_app (goodIn_of _ (by decide +kernel)) ggL_act_X5_storeByte
set_option maxRecDepth 20000 in
theorem ggL_act_X5_move : GoodIn wsL_act wsX5_move := goodIn_r _ [245, 12, 13, 14, 15, 16, 17, 18, 19, 20, 21, 22, 23, 24, 25, 26, 27, 28, 29, 30, 31, 32, 33, 34, 35, 36, 37, 38, 39, 40, 41, 42, 43, 44, 45, 46, 47, 48, 49, 50, 51, 52, 53, 54, 55, 56, 57, 58, 59, 60, 61, 246, 247, 248, 249, 180, 10, 181, 200, 201, 190, 191, 118, 119, 120, 121, 122, 123, 124, 125, 126, 102, 103, 104, 113, 69, 70, 71, 72, 73, 74, 75, 76, 77, 78, 79, 80, 81, 295, 296, 297, 298, 299, 300, 301, 302, 303, 304, 305, 306, 307, 308, 309, 310, 311, 312, 313, 314, 315, 316, 317, 318] (by decide +kernel) (by decide +kernel)
