set_option maxRecDepth 20000 in
theorem gs_law_isCopied_0 : GoodIn wsL_law [.code yL_isCopied cL_isCopied 13 (some .boolean)] := goodIn_r _ [500] (by decide +kernel) (by decide +kernel)
set_option maxRecDepth 20000 in
theorem gs_law_wsL_isCopied_r1 : GoodIn wsL_law wsL_isCopied_r1 := goodIn_r _ [139, 140, 141, 2, 142, 12, 122, 123, 124, 239, 240, 73, 241, 242, 243, 95, 96, 97, 98, 244, 245, 246, 247, 248] (by decide +kernel) (by decide +kernel)
set_option maxRecDepth 20000 in
theorem gs_law_wsL_isCopied_r2 : GoodIn wsL_law wsL_isCopied_r2 := goodIn_r _ [249, 250, 251, 84, 85, 86, 87, 81, 82, 83, 77, 78, 79, 80, 88, 89, 90, 91, 107, 108, 109, 110, 111, 11] (by decide +kernel) (by decide +kernel)
set_option maxRecDepth 20000 in
theorem gs_law_wsL_isCopied_r3 : GoodIn wsL_law wsL_isCopied_r3 := goodIn_r _ [112, 113, 34, 114, 115, 116, 117, 252, 253, 254, 255, 131, 132, 133, 134, 125, 126, 127, 128, 129, 130, 118, 119, 120] (by decide +kernel) (by decide +kernel)
set_option maxRecDepth 20000 in
theorem gs_law_wsL_isCopied_r4 : GoodIn wsL_law wsL_isCopied_r4 := goodIn_r _ [121, 135, 136, 137, 138, 256, 257, 258, 259, 390, 391, 392, 393, 17, 272, 273, 274, 16, 275, 63, 210, 209, 211, 212] (by decide +kernel) (by decide +kernel)
set_option maxRecDepth 20000 in
theorem gs_law_wsL_isCopied_r5 : GoodIn wsL_law wsL_isCopied_r5 := goodIn_r _ [213, 214, 30, 31, 32, 36, 215, 216, 217, 218, 38, 37, 42, 106, 219, 220, 221, 222, 24, 223, 47, 224, 48, 49] (by decide +kernel) (by decide +kernel)
set_option maxRecDepth 20000 in
theorem gs_law_wsL_isCopied_r6 : GoodIn wsL_law wsL_isCopied_r6 := goodIn_r _ [225, 226, 227, 228, 229, 230, 41, 231, 57, 232, 233, 234, 394, 395, 396, 397, 398, 399, 400, 401, 304, 305, 306, 307] (by decide +kernel) (by decide +kernel)
set_option maxRecDepth 20000 in
theorem gs_law_wsL_isCopied_r7 : GoodIn wsL_law wsL_isCopied_r7 := goodIn_r _ [190, 191, 192, 193, 194, 180, 181, 182, 195, 308, 309, 310, 311, 312, 281, 282, 283, 317, 318, 319, 320, 321, 322, 164] (by decide +kernel) (by decide +kernel)
set_option maxRecDepth 20000 in
theorem gs_law_wsL_isCopied_r8 : GoodIn wsL_law wsL_isCopied_r8 := goodIn_r _ [323, 179, 284, 285, 286, 287, 288, 289, 290, 291, 292, 293, 475, 476, 477, 478, 479, 480, 481, 482, 446, 447, 448, 449] (by decide +kernel) (by decide +kernel)
set_option maxRecDepth 20000 in
theorem gs_law_wsL_isCopied_r9 : GoodIn wsL_law wsL_isCopied_r9 := goodIn_r _ [450, 451, 452, 453, 454, 455, 456, 457, 458, 340, 341, 342, 343, 201, 202, 203, 204, 205, 206, 207, 208] (by decide +kernel) (by decide +kernel)
set_option maxRecDepth 20000 in
theorem ggL_law_L_isCopied : GoodIn wsL_law wsL_isCopied := fun w h => (List.mem_cons.mp h).elim (fun e => gs_law_isCopied_0 w (List.mem_cons.mpr (Or.inl e))) ((goodIn_app (goodIn_app (goodIn_app (goodIn_app (goodIn_app (goodIn_app gs_law_wsL_isCopied_r1 (goodIn_app gs_law_wsL_isCopied_r2 (goodIn_app gs_law_wsL_isCopied_r3 (goodIn_app gs_law_wsL_isCopied_r4 (goodIn_app gs_law_wsL_isCopied_r5 (goodIn_app gs_law_wsL_isCopied_r6 (goodIn_app gs_law_wsL_isCopied_r7 (goodIn_app gs_law_wsL_isCopied_r8 gs_law_wsL_isCopied_r9)))))))) gs_law_wsX50) gs_law_wsX30) gs_law_wsX10) gs_law_wsX00) gs_law_wsX20) w)
set_option maxRecDepth 20000 in
theorem gL_law_L_isCopied : GoodIn wsL_law (va_wsS RL 180 yL_isCopied wsL_isCopied) := goodIn_app (goodIn_of _ (by decide +kernel)) ggL_law_L_isCopied
theorem dL_law_0 : decode cL_law 0 = .ok (.new 12, 3) := by decide +kernel
theorem dL_law_3 : decode cL_law 3 = .ok (.dup, 1) := by decide +kernel
theorem dL_law_4 : decode cL_law 4 = .ok (.invokespecial 159, 3) := by decide +kernel
theorem dL_law_7 : decode cL_law 7 = .ok (.astore_n 1, 1) := by decide +kernel
theorem dL_law_8 : decode cL_law 8 = .ok (.aload_n 1, 1) := by decide +kernel
theorem dL_law_9 : decode cL_law 9 = .ok (.invokestatic 160, 3) := by decide +kernel
theorem dL_law_12 : decode cL_law 12 = .ok (.ifCond .eq 16, 3) := by decide +kernel
theorem dL_law_15 : decode cL_law 15 = .ok (.aload_n 1, 1) := by decide +kernel
theorem dL_law_16 : decode cL_law 16 = .ok (.invokevirtual 156, 3) := by decide +kernel
theorem dL_law_19 : decode cL_law 19 = .ok (.bipush (-6), 2) := by decide +kernel
theorem dL_law_21 : decode cL_law 21 = .ok (.if_icmp .ne 7, 3) := by decide +kernel
theorem dL_law_24 : decode cL_law 24 = .ok (.iconst 1, 1) := by decide +kernel
theorem dL_law_25 : decode cL_law 25 = .ok (.goto 4, 3) := by decide +kernel
theorem dL_law_28 : decode cL_law 28 = .ok (.iconst 0, 1) := by decide +kernel
theorem dL_law_29 : decode cL_law 29 = .ok (.istore_n 2, 1) := by decide +kernel
theorem dL_law_30 : decode cL_law 30 = .ok (.iconst 0, 1) := by decide +kernel
theorem dL_law_31 : decode cL_law 31 = .ok (.istore_n 3, 1) := by decide +kernel
theorem dL_law_32 : decode cL_law 32 = .ok (.iload_n 3, 1) := by decide +kernel
theorem dL_law_33 : decode cL_law 33 = .ok (.bipush 60, 2) := by decide +kernel
theorem dL_law_35 : decode cL_law 35 = .ok (.if_icmp .ge 262, 3) := by decide +kernel
theorem dL_law_38 : decode cL_law 38 = .ok (.iload_n 2, 1) := by decide +kernel
theorem dL_law_39 : decode cL_law 39 = .ok (.ifCond .eq 258, 3) := by decide +kernel
theorem dL_law_42 : decode cL_law 42 = .ok (.aload_n 0, 1) := by decide +kernel
theorem dL_law_43 : decode cL_law 43 = .ok (.iconst 2, 1) := by decide +kernel
theorem dL_law_44 : decode cL_law 44 = .ok (.iload_n 3, 1) := by decide +kernel
theorem dL_law_45 : decode cL_law 45 = .ok (.imul, 1) := by decide +kernel
theorem dL_law_46 : decode cL_law 46 = .ok (.invokestatic 164, 3) := by decide +kernel
theorem dL_law_49 : decode cL_law 49 = .ok (.istore 4, 2) := by decide +kernel
theorem dL_law_51 : decode cL_law 51 = .ok (.aload_n 0, 1) := by decide +kernel
theorem dL_law_52 : decode cL_law 52 = .ok (.iconst 2, 1) := by decide +kernel
theorem dL_law_53 : decode cL_law 53 = .ok (.iload_n 3, 1) := by decide +kernel
theorem dL_law_54 : decode cL_law 54 = .ok (.imul, 1) := by decide +kernel
theorem dL_law_55 : decode cL_law 55 = .ok (.iconst 1, 1) := by decide +kernel
theorem dL_law_56 : decode cL_law 56 = .ok (.iadd, 1) := by decide +kernel
theorem dL_law_57 : decode cL_law 57 = .ok (.invokestatic 164, 3) := by decide +kernel
theorem dL_law_60 : decode cL_law 60 = .ok (.istore 5, 2) := by decide +kernel
theorem dL_law_62 : decode cL_law 62 = .ok (.aload_n 1, 1) := by decide +kernel
theorem dL_law_63 : decode cL_law 63 = .ok (.invokestatic 146, 3) := by decide +kernel
theorem dL_law_66 : decode cL_law 66 = .ok (.lstore 6, 2) := by decide +kernel
theorem dL_law_68 : decode cL_law 68 = .ok (.aload_n 1, 1) := by decide +kernel
theorem dL_law_69 : decode cL_law 69 = .ok (.invokevirtual 19, 3) := by decide +kernel
theorem dL_law_72 : decode cL_law 72 = .ok (.istore 8, 2) := by decide +kernel
theorem dL_law_74 : decode cL_law 74 = .ok (.aload_n 1, 1) := by decide +kernel
theorem dL_law_75 : decode cL_law 75 = .ok (.iload 4, 2) := by decide +kernel
theorem dL_law_77 : decode cL_law 77 = .ok (.iload 5, 2) := by decide +kernel
theorem dL_law_79 : decode cL_law 79 = .ok (.invokestatic 168, 3) := by decide +kernel
theorem dL_law_82 : decode cL_law 82 = .ok (.istore 9, 2) := by decide +kernel
theorem dL_law_84 : decode cL_law 84 = .ok (.iload 9, 2) := by decide +kernel
theorem dL_law_86 : decode cL_law 86 = .ok (.invokestatic 172, 3) := by decide +kernel
theorem dL_law_89 : decode cL_law 89 = .ok (.ifCond .eq 21, 3) := by decide +kernel
theorem dL_law_92 : decode cL_law 92 = .ok (.aload_n 1, 1) := by decide +kernel
theorem dL_law_93 : decode cL_law 93 = .ok (.invokestatic 146, 3) := by decide +kernel
theorem dL_law_96 : decode cL_law 96 = .ok (.lload 6, 2) := by decide +kernel
theorem dL_law_98 : decode cL_law 98 = .ok (.lcmp, 1) := by decide +kernel
theorem dL_law_99 : decode cL_law 99 = .ok (.ifCond .ne 7, 3) := by decide +kernel
theorem dL_law_102 : decode cL_law 102 = .ok (.iconst 1, 1) := by decide +kernel
theorem dL_law_103 : decode cL_law 103 = .ok (.goto 32, 3) := by decide +kernel
theorem dL_law_106 : decode cL_law 106 = .ok (.iconst 0, 1) := by decide +kernel
theorem dL_law_107 : decode cL_law 107 = .ok (.goto 28, 3) := by decide +kernel
theorem dL_law_110 : decode cL_law 110 = .ok (.aload_n 1, 1) := by decide +kernel
theorem dL_law_111 : decode cL_law 111 = .ok (.invokevirtual 19, 3) := by decide +kernel
theorem dL_law_114 : decode cL_law 114 = .ok (.iload 8, 2) := by decide +kernel
theorem dL_law_116 : decode cL_law 116 = .ok (.if_icmp .eq 14, 3) := by decide +kernel
theorem dL_law_119 : decode cL_law 119 = .ok (.aload_n 1, 1) := by decide +kernel
theorem dL_law_120 : decode cL_law 120 = .ok (.invokevirtual 19, 3) := by decide +kernel
theorem dL_law_123 : decode cL_law 123 = .ok (.iload 8, 2) := by decide +kernel
theorem dL_law_125 : decode cL_law 125 = .ok (.iconst 1, 1) := by decide +kernel
theorem dL_law_126 : decode cL_law 126 = .ok (.iadd, 1) := by decide +kernel
theorem dL_law_127 : decode cL_law 127 = .ok (.if_icmp .ne 7, 3) := by decide +kernel
theorem dL_law_130 : decode cL_law 130 = .ok (.iconst 1, 1) := by decide +kernel
theorem dL_law_131 : decode cL_law 131 = .ok (.goto 4, 3) := by decide +kernel
theorem dL_law_134 : decode cL_law 134 = .ok (.iconst 0, 1) := by decide +kernel
theorem dL_law_135 : decode cL_law 135 = .ok (.istore_n 2, 1) := by decide +kernel
theorem dL_law_136 : decode cL_law 136 = .ok (.iload_n 2, 1) := by decide +kernel
theorem dL_law_137 : decode cL_law 137 = .ok (.ifCond .eq 73, 3) := by decide +kernel
theorem dL_law_140 : decode cL_law 140 = .ok (.iload 9, 2) := by decide +kernel
theorem dL_law_142 : decode cL_law 142 = .ok (.invokestatic 172, 3) := by decide +kernel
theorem dL_law_145 : decode cL_law 145 = .ok (.ifCond .ne 65, 3) := by decide +kernel
theorem dL_law_148 : decode cL_law 148 = .ok (.iload 4, 2) := by decide +kernel
theorem dL_law_150 : decode cL_law 150 = .ok (.bipush 8, 2) := by decide +kernel
theorem dL_law_152 : decode cL_law 152 = .ok (.ishr, 1) := by decide +kernel
theorem dL_law_153 : decode cL_law 153 = .ok (.iconst 3, 1) := by decide +kernel
theorem dL_law_154 : decode cL_law 154 = .ok (.iand, 1) := by decide +kernel
theorem dL_law_155 : decode cL_law 155 = .ok (.ifCond .ne 55, 3) := by decide +kernel
theorem dL_law_158 : decode cL_law 158 = .ok (.aload_n 1, 1) := by decide +kernel
theorem dL_law_159 : decode cL_law 159 = .ok (.invokestatic 146, 3) := by decide +kernel
theorem dL_law_162 : decode cL_law 162 = .ok (.lstore 10, 2) := by decide +kernel
theorem dL_law_164 : decode cL_law 164 = .ok (.aload_n 1, 1) := by decide +kernel
theorem dL_law_165 : decode cL_law 165 = .ok (.invokevirtual 156, 3) := by decide +kernel
theorem dL_law_168 : decode cL_law 168 = .ok (.ifCond .lt 40, 3) := by decide +kernel
theorem dL_law_171 : decode cL_law 171 = .ok (.aload_n 1, 1) := by decide +kernel
theorem dL_law_172 : decode cL_law 172 = .ok (.invokestatic 146, 3) := by decide +kernel
theorem dL_law_175 : decode cL_law 175 = .ok (.lload 6, 2) := by decide +kernel
theorem dL_law_177 : decode cL_law 177 = .ok (.lcmp, 1) := by decide +kernel
theorem dL_law_178 : decode cL_law 178 = .ok (.ifCond .ne 30, 3) := by decide +kernel
theorem dL_law_181 : decode cL_law 181 = .ok (.aload_n 1, 1) := by decide +kernel
theorem dL_law_182 : decode cL_law 182 = .ok (.iload 4, 2) := by decide +kernel
theorem dL_law_184 : decode cL_law 184 = .ok (.iload 5, 2) := by decide +kernel
theorem dL_law_186 : decode cL_law 186 = .ok (.invokestatic 168, 3) := by decide +kernel
theorem dL_law_189 : decode cL_law 189 = .ok (.iload 9, 2) := by decide +kernel
theorem dL_law_191 : decode cL_law 191 = .ok (.if_icmp .ne 17, 3) := by decide +kernel
theorem dL_law_194 : decode cL_law 194 = .ok (.aload_n 1, 1) := by decide +kernel
theorem dL_law_195 : decode cL_law 195 = .ok (.invokestatic 146, 3) := by decide +kernel
theorem dL_law_198 : decode cL_law 198 = .ok (.lload 10, 2) := by decide +kernel
theorem dL_law_200 : decode cL_law 200 = .ok (.lcmp, 1) := by decide +kernel
theorem dL_law_201 : decode cL_law 201 = .ok (.ifCond .ne 7, 3) := by decide +kernel
theorem dL_law_204 : decode cL_law 204 = .ok (.iconst 1, 1) := by decide +kernel
theorem dL_law_205 : decode cL_law 205 = .ok (.goto 4, 3) := by decide +kernel
theorem dL_law_208 : decode cL_law 208 = .ok (.iconst 0, 1) := by decide +kernel
theorem dL_law_209 : decode cL_law 209 = .ok (.istore_n 2, 1) := by decide +kernel
theorem dL_law_210 : decode cL_law 210 = .ok (.iload_n 2, 1) := by decide +kernel
theorem dL_law_211 : decode cL_law 211 = .ok (.ifCond .eq 78, 3) := by decide +kernel
theorem dL_law_214 : decode cL_law 214 = .ok (.aload_n 1, 1) := by decide +kernel
theorem dL_law_215 : decode cL_law 215 = .ok (.invokestatic 160, 3) := by decide +kernel
theorem dL_law_218 : decode cL_law 218 = .ok (.ifCond .eq 71, 3) := by decide +kernel
theorem dL_law_221 : decode cL_law 221 = .ok (.iload_n 3, 1) := by decide +kernel
theorem dL_law_222 : decode cL_law 222 = .ok (.iconst 3, 1) := by decide +kernel
theorem dL_law_223 : decode cL_law 223 = .ok (.irem, 1) := by decide +kernel
theorem dL_law_224 : decode cL_law 224 = .ok (.iconst 1, 1) := by decide +kernel
theorem dL_law_225 : decode cL_law 225 = .ok (.if_icmp .ne 19, 3) := by decide +kernel
theorem dL_law_228 : decode cL_law 228 = .ok (.aload_n 1, 1) := by decide +kernel
theorem dL_law_229 : decode cL_law 229 = .ok (.iload 4, 2) := by decide +kernel
theorem dL_law_231 : decode cL_law 231 = .ok (.iconst 5, 1) := by decide +kernel
theorem dL_law_232 : decode cL_law 232 = .ok (.ishr, 1) := by decide +kernel
theorem dL_law_233 : decode cL_law 233 = .ok (.bipush 8, 2) := by decide +kernel
theorem dL_law_235 : decode cL_law 235 = .ok (.invokestatic 60, 3) := by decide +kernel
theorem dL_law_238 : decode cL_law 238 = .ok (.invokestatic 176, 3) := by decide +kernel
theorem dL_law_241 : decode cL_law 241 = .ok (.ifCond .eq 48, 3) := by decide +kernel
theorem dL_law_244 : decode cL_law 244 = .ok (.iload_n 3, 1) := by decide +kernel
theorem dL_law_245 : decode cL_law 245 = .ok (.iconst 4, 1) := by decide +kernel
theorem dL_law_246 : decode cL_law 246 = .ok (.irem, 1) := by decide +kernel
theorem dL_law_247 : decode cL_law 247 = .ok (.iconst 2, 1) := by decide +kernel
theorem dL_law_248 : decode cL_law 248 = .ok (.if_icmp .ne 37, 3) := by decide +kernel
theorem dL_law_251 : decode cL_law 251 = .ok (.aload_n 1, 1) := by decide +kernel
theorem dL_law_252 : decode cL_law 252 = .ok (.iload 4, 2) := by decide +kernel
theorem dL_law_254 : decode cL_law 254 = .ok (.bipush 6, 2) := by decide +kernel
theorem dL_law_256 : decode cL_law 256 = .ok (.ishr, 1) := by decide +kernel
theorem dL_law_257 : decode cL_law 257 = .ok (.iconst 4, 1) := by decide +kernel
theorem dL_law_258 : decode cL_law 258 = .ok (.invokestatic 60, 3) := by decide +kernel
theorem dL_law_261 : decode cL_law 261 = .ok (.iload 4, 2) := by decide +kernel
theorem dL_law_263 : decode cL_law 263 = .ok (.bipush 8, 2) := by decide +kernel
theorem dL_law_265 : decode cL_law 265 = .ok (.ishr, 1) := by decide +kernel
theorem dL_law_266 : decode cL_law 266 = .ok (.iconst 4, 1) := by decide +kernel
theorem dL_law_267 : decode cL_law 267 = .ok (.invokestatic 60, 3) := by decide +kernel
theorem dL_law_270 : decode cL_law 270 = .ok (.iload 5, 2) := by decide +kernel
theorem dL_law_272 : decode cL_law 272 = .ok (.iconst 3, 1) := by decide +kernel
theorem dL_law_273 : decode cL_law 273 = .ok (.ishr, 1) := by decide +kernel
theorem dL_law_274 : decode cL_law 274 = .ok (.bipush 32, 2) := by decide +kernel
theorem dL_law_276 : decode cL_law 276 = .ok (.invokestatic 60, 3) := by decide +kernel
theorem dL_law_279 : decode cL_law 279 = .ok (.invokestatic 180, 3) := by decide +kernel
theorem dL_law_282 : decode cL_law 282 = .ok (.ifCond .eq 7, 3) := by decide +kernel
theorem dL_law_285 : decode cL_law 285 = .ok (.iconst 1, 1) := by decide +kernel
theorem dL_law_286 : decode cL_law 286 = .ok (.goto 4, 3) := by decide +kernel
theorem dL_law_289 : decode cL_law 289 = .ok (.iconst 0, 1) := by decide +kernel
theorem dL_law_290 : decode cL_law 290 = .ok (.istore_n 2, 1) := by decide +kernel
theorem dL_law_291 : decode cL_law 291 = .ok (.iinc 3 1, 3) := by decide +kernel
theorem dL_law_294 : decode cL_law 294 = .ok (.goto (-262), 3) := by decide +kernel
theorem dL_law_297 : decode cL_law 297 = .ok (.iload_n 2, 1) := by decide +kernel
theorem dL_law_298 : decode cL_law 298 = .ok (.ireturn, 1) := by decide +kernel
