set_option maxRecDepth 20000 in
theorem gL_act_X5_move : GoodIn wsL_act (wsV RL 105 RX5 yX5_move wsX5_move) := goodIn_app (goodIn_of _ (by decide +kernel)) ggL_act_X5_move
set_option maxRecDepth 20000 in
theorem ggL_act_X5_compute : GoodIn wsL_act wsX5_compute := goodIn_r _ [253, 12, 13, 14, 15, 16, 17, 18, 19, 20, 21, 22, 23, 24, 25, 26, 27, 28, 29, 30, 31, 32, 33, 34, 35, 36, 37, 38, 39, 40, 41, 42, 43, 44, 45, 46, 47, 48, 49, 50, 51, 52, 53, 54, 55, 56, 57, 58, 59, 60, 61, 254, 255, 256, 257, 180, 10, 181, 200, 201, 258, 259, 260, 261, 190, 191, 101, 102, 103, 104, 262, 263, 264, 265, 266, 123, 124, 125, 267, 268, 269, 270, 146, 147, 148, 149, 113, 69, 70, 71, 271, 272, 273, 274, 72, 73, 74, 75, 76, 77, 78, 79, 80, 81, 295, 296, 297, 298, 299, 300, 301, 302, 303, 304, 305, 306, 307, 308, 309, 310, 311, 312, 313, 314, 315, 316, 317, 318] (by decide +kernel) (by decide +kernel)
set_option maxRecDepth 20000 in
theorem gL_act_X5_compute : GoodIn wsL_act (wsV RL 108 RX5 yX5_compute wsX5_compute) := goodIn_app (goodIn_of _ (by decide +kernel)) ggL_act_X5_compute
set_option maxRecDepth 20000 in
theorem ggL_act_X5_loadAt : GoodIn wsL_act wsX5_loadAt := goodIn_r _ [278, 12, 13, 14, 15, 16, 17, 18, 19, 20, 21, 22, 23, 24, 25, 26, 27, 28, 29, 30, 31, 32, 33, 34, 35, 36, 37, 38, 39, 40, 41, 42, 43, 44, 45, 46, 47, 48, 49, 50, 51, 52, 53, 54, 55, 56, 57, 58, 59, 60, 61, 279, 280, 281, 282, 180, 10, 181, 200, 201, 258, 259, 260, 261, 190, 191, 101, 102, 103, 104, 262, 263, 264, 265, 266, 123, 124, 125, 267, 268, 269, 270, 146, 147, 148, 149, 113, 69, 70, 71, 283, 284, 285, 286, 210, 211, 212, 213, 93, 94, 95, 96, 97, 98, 99, 100, 105, 106, 107, 108, 109, 110, 111, 112, 118, 119, 120, 121, 122, 126, 72, 73, 74, 75, 76, 77, 78, 79, 80, 81, 295, 296, 297, 298, 299, 300, 301, 302, 303, 304, 305, 306, 307, 308, 309, 310, 311, 312, 313, 314, 315, 316, 317, 318] (by decide +kernel) (by decide +kernel)
set_option maxRecDepth 20000 in
theorem gL_act_X5_loadAt : GoodIn wsL_act (wsV RL 112 RX5 yX5_loadAt wsX5_loadAt) := goodIn_app (goodIn_of _ (by decide +kernel)) ggL_act_X5_loadAt
set_option maxRecDepth 20000 in
theorem ggL_act_X5_output : GoodIn wsL_act wsX5_output := goodIn_r _ [290, 12, 13, 14, 15, 16, 17, 18, 19, 20, 21, 22, 23, 24, 25, 26, 27, 28, 29, 30, 31, 32, 33, 34, 35, 36, 37, 38, 39, 40, 41, 42, 43, 44, 45, 46, 47, 48, 49, 50, 51, 52, 53, 54, 55, 56, 57, 58, 59, 60, 61, 291, 292, 293, 294, 180, 10, 181, 200, 201, 258, 259, 260, 261, 190, 191, 101, 102, 103, 104, 262, 263, 264, 265, 266, 123, 124, 125, 267, 268, 269, 270, 146, 147, 148, 149, 113, 69, 70, 71, 72, 73, 74, 75, 76, 77, 78, 79, 80, 81, 295, 296, 297, 298, 299, 300, 301, 302, 303, 304, 305, 306, 307, 308, 309, 310, 311, 312, 313, 314, 315, 316, 317, 318] (by decide +kernel) (by decide +kernel)
set_option maxRecDepth 20000 in
theorem gL_act_X5_output : GoodIn wsL_act (wsV RL 115 RX5 yX5_output wsX5_output) := goodIn_app (goodIn_of _ (by decide +kernel)) ggL_act_X5_output
theorem dL_act_0 : decode cL_act 0 = .ok (.iload_n 2, 1) := by decide +kernel
theorem dL_act_1 : decode cL_act 1 = .ok (.iconst 4, 1) := by decide +kernel
theorem dL_act_2 : decode cL_act 2 = .ok (.invokestatic 60, 3) := by decide +kernel
theorem dL_act_5 : decode cL_act 5 = .ok (.istore_n 3, 1) := by decide +kernel
theorem dL_act_6 : decode cL_act 6 = .ok (.iload_n 2, 1) := by decide +kernel
theorem dL_act_7 : decode cL_act 7 = .ok (.iconst 2, 1) := by decide +kernel
theorem dL_act_8 : decode cL_act 8 = .ok (.ishr, 1) := by decide +kernel
theorem dL_act_9 : decode cL_act 9 = .ok (.iconst 4, 1) := by decide +kernel
theorem dL_act_10 : decode cL_act 10 = .ok (.invokestatic 60, 3) := by decide +kernel
theorem dL_act_13 : decode cL_act 13 = .ok (.istore 4, 2) := by decide +kernel
theorem dL_act_15 : decode cL_act 15 = .ok (.iload_n 2, 1) := by decide +kernel
theorem dL_act_16 : decode cL_act 16 = .ok (.iconst 4, 1) := by decide +kernel
theorem dL_act_17 : decode cL_act 17 = .ok (.ishr, 1) := by decide +kernel
theorem dL_act_18 : decode cL_act 18 = .ok (.iconst 4, 1) := by decide +kernel
theorem dL_act_19 : decode cL_act 19 = .ok (.invokestatic 60, 3) := by decide +kernel
theorem dL_act_22 : decode cL_act 22 = .ok (.istore 5, 2) := by decide +kernel
theorem dL_act_24 : decode cL_act 24 = .ok (.iload_n 2, 1) := by decide +kernel
theorem dL_act_25 : decode cL_act 25 = .ok (.bipush 6, 2) := by decide +kernel
theorem dL_act_27 : decode cL_act 27 = .ok (.ishr, 1) := by decide +kernel
theorem dL_act_28 : decode cL_act 28 = .ok (.bipush 32, 2) := by decide +kernel
theorem dL_act_30 : decode cL_act 30 = .ok (.invokestatic 60, 3) := by decide +kernel
theorem dL_act_33 : decode cL_act 33 = .ok (.istore 6, 2) := by decide +kernel
theorem dL_act_35 : decode cL_act 35 = .ok (.iconst 1, 1) := by decide +kernel
theorem dL_act_36 : decode cL_act 36 = .ok (.iload_n 2, 1) := by decide +kernel
theorem dL_act_37 : decode cL_act 37 = .ok (.bipush 11, 2) := by decide +kernel
theorem dL_act_39 : decode cL_act 39 = .ok (.ishr, 1) := by decide +kernel
theorem dL_act_40 : decode cL_act 40 = .ok (.bipush 6, 2) := by decide +kernel
theorem dL_act_42 : decode cL_act 42 = .ok (.invokestatic 60, 3) := by decide +kernel
theorem dL_act_45 : decode cL_act 45 = .ok (.iadd, 1) := by decide +kernel
theorem dL_act_46 : decode cL_act 46 = .ok (.istore 7, 2) := by decide +kernel
theorem dL_act_48 : decode cL_act 48 = .ok (.iload_n 2, 1) := by decide +kernel
theorem dL_act_49 : decode cL_act 49 = .ok (.bipush 14, 2) := by decide +kernel
theorem dL_act_51 : decode cL_act 51 = .ok (.ishr, 1) := by decide +kernel
theorem dL_act_52 : decode cL_act 52 = .ok (.bipush 27, 2) := by decide +kernel
theorem dL_act_54 : decode cL_act 54 = .ok (.invokestatic 60, 3) := by decide +kernel
theorem dL_act_57 : decode cL_act 57 = .ok (.istore 8, 2) := by decide +kernel
theorem dL_act_59 : decode cL_act 59 = .ok (.iload_n 1, 1) := by decide +kernel
theorem dL_act_60 : decode cL_act 60 = .ok (.bipush 20, 2) := by decide +kernel
theorem dL_act_62 : decode cL_act 62 = .ok (.invokestatic 60, 3) := by decide +kernel
theorem dL_act_65 : decode cL_act 65 = .ok (.tableswitch 298 0 18 #[91, 91, 98, 121, 136, 136, 156, 165, 178, 184, 200, 200, 210, 226, 226, 236, 252, 262, 288], 91) := by decide +kernel
theorem dL_act_156 : decode cL_act 156 = .ok (.aload_n 0, 1) := by decide +kernel
theorem dL_act_157 : decode cL_act 157 = .ok (.iload 6, 2) := by decide +kernel
theorem dL_act_159 : decode cL_act 159 = .ok (.invokevirtual 65, 3) := by decide +kernel
theorem dL_act_162 : decode cL_act 162 = .ok (.ireturn, 1) := by decide +kernel
theorem dL_act_163 : decode cL_act 163 = .ok (.aload_n 0, 1) := by decide +kernel
theorem dL_act_164 : decode cL_act 164 = .ok (.iload 6, 2) := by decide +kernel
theorem dL_act_166 : decode cL_act 166 = .ok (.bipush 26, 2) := by decide +kernel
theorem dL_act_168 : decode cL_act 168 = .ok (.if_icmp .le 8, 3) := by decide +kernel
theorem dL_act_171 : decode cL_act 171 = .ok (.bipush 26, 2) := by decide +kernel
theorem dL_act_173 : decode cL_act 173 = .ok (.goto 5, 3) := by decide +kernel
theorem dL_act_176 : decode cL_act 176 = .ok (.iload 6, 2) := by decide +kernel
theorem dL_act_178 : decode cL_act 178 = .ok (.iload 8, 2) := by decide +kernel
theorem dL_act_180 : decode cL_act 180 = .ok (.iload 7, 2) := by decide +kernel
theorem dL_act_182 : decode cL_act 182 = .ok (.invokevirtual 68, 3) := by decide +kernel
theorem dL_act_185 : decode cL_act 185 = .ok (.ireturn, 1) := by decide +kernel
theorem dL_act_186 : decode cL_act 186 = .ok (.aload_n 0, 1) := by decide +kernel
theorem dL_act_187 : decode cL_act 187 = .ok (.iload 8, 2) := by decide +kernel
theorem dL_act_189 : decode cL_act 189 = .ok (.iload 7, 2) := by decide +kernel
theorem dL_act_191 : decode cL_act 191 = .ok (.iload_n 2, 1) := by decide +kernel
theorem dL_act_192 : decode cL_act 192 = .ok (.ldc 72, 2) := by decide +kernel
theorem dL_act_194 : decode cL_act 194 = .ok (.invokestatic 60, 3) := by decide +kernel
theorem dL_act_197 : decode cL_act 197 = .ok (.invokevirtual 73, 3) := by decide +kernel
theorem dL_act_200 : decode cL_act 200 = .ok (.ireturn, 1) := by decide +kernel
theorem dL_act_201 : decode cL_act 201 = .ok (.aload_n 0, 1) := by decide +kernel
theorem dL_act_202 : decode cL_act 202 = .ok (.iload 6, 2) := by decide +kernel
theorem dL_act_204 : decode cL_act 204 = .ok (.iconst 4, 1) := by decide +kernel
theorem dL_act_205 : decode cL_act 205 = .ok (.idiv, 1) := by decide +kernel
theorem dL_act_206 : decode cL_act 206 = .ok (.iload_n 2, 1) := by decide +kernel
theorem dL_act_207 : decode cL_act 207 = .ok (.iconst 3, 1) := by decide +kernel
theorem dL_act_208 : decode cL_act 208 = .ok (.iand, 1) := by decide +kernel
theorem dL_act_209 : decode cL_act 209 = .ok (.ifCond .le 7, 3) := by decide +kernel
theorem dL_act_212 : decode cL_act 212 = .ok (.iconst 1, 1) := by decide +kernel
theorem dL_act_213 : decode cL_act 213 = .ok (.goto 4, 3) := by decide +kernel
theorem dL_act_216 : decode cL_act 216 = .ok (.iconst 0, 1) := by decide +kernel
theorem dL_act_217 : decode cL_act 217 = .ok (.invokevirtual 76, 3) := by decide +kernel
theorem dL_act_220 : decode cL_act 220 = .ok (.ireturn, 1) := by decide +kernel
theorem dL_act_221 : decode cL_act 221 = .ok (.aload_n 0, 1) := by decide +kernel
theorem dL_act_222 : decode cL_act 222 = .ok (.iload 6, 2) := by decide +kernel
theorem dL_act_224 : decode cL_act 224 = .ok (.iconst 4, 1) := by decide +kernel
theorem dL_act_225 : decode cL_act 225 = .ok (.idiv, 1) := by decide +kernel
theorem dL_act_226 : decode cL_act 226 = .ok (.invokevirtual 80, 3) := by decide +kernel
theorem dL_act_229 : decode cL_act 229 = .ok (.ireturn, 1) := by decide +kernel
theorem dL_act_230 : decode cL_act 230 = .ok (.aload_n 0, 1) := by decide +kernel
theorem dL_act_231 : decode cL_act 231 = .ok (.iload_n 3, 1) := by decide +kernel
theorem dL_act_232 : decode cL_act 232 = .ok (.iload_n 2, 1) := by decide +kernel
theorem dL_act_233 : decode cL_act 233 = .ok (.iconst 2, 1) := by decide +kernel
theorem dL_act_234 : decode cL_act 234 = .ok (.ishr, 1) := by decide +kernel
theorem dL_act_235 : decode cL_act 235 = .ok (.iconst 3, 1) := by decide +kernel
theorem dL_act_236 : decode cL_act 236 = .ok (.invokestatic 60, 3) := by decide +kernel
theorem dL_act_239 : decode cL_act 239 = .ok (.invokevirtual 83, 3) := by decide +kernel
theorem dL_act_242 : decode cL_act 242 = .ok (.ireturn, 1) := by decide +kernel
theorem dL_act_243 : decode cL_act 243 = .ok (.aload_n 0, 1) := by decide +kernel
theorem dL_act_244 : decode cL_act 244 = .ok (.iload_n 3, 1) := by decide +kernel
theorem dL_act_245 : decode cL_act 245 = .ok (.invokevirtual 86, 3) := by decide +kernel
theorem dL_act_248 : decode cL_act 248 = .ok (.ireturn, 1) := by decide +kernel
theorem dL_act_249 : decode cL_act 249 = .ok (.aload_n 0, 1) := by decide +kernel
theorem dL_act_250 : decode cL_act 250 = .ok (.iload_n 3, 1) := by decide +kernel
theorem dL_act_251 : decode cL_act 251 = .ok (.iload 4, 2) := by decide +kernel
theorem dL_act_253 : decode cL_act 253 = .ok (.iload_n 2, 1) := by decide +kernel
theorem dL_act_254 : decode cL_act 254 = .ok (.iconst 4, 1) := by decide +kernel
theorem dL_act_255 : decode cL_act 255 = .ok (.ishr, 1) := by decide +kernel
theorem dL_act_256 : decode cL_act 256 = .ok (.ldc 72, 2) := by decide +kernel
theorem dL_act_258 : decode cL_act 258 = .ok (.invokestatic 60, 3) := by decide +kernel
theorem dL_act_261 : decode cL_act 261 = .ok (.invokevirtual 89, 3) := by decide +kernel
theorem dL_act_264 : decode cL_act 264 = .ok (.ireturn, 1) := by decide +kernel
theorem dL_act_265 : decode cL_act 265 = .ok (.aload_n 0, 1) := by decide +kernel
theorem dL_act_266 : decode cL_act 266 = .ok (.iload_n 3, 1) := by decide +kernel
theorem dL_act_267 : decode cL_act 267 = .ok (.iload 4, 2) := by decide +kernel
theorem dL_act_269 : decode cL_act 269 = .ok (.iload 6, 2) := by decide +kernel
theorem dL_act_271 : decode cL_act 271 = .ok (.invokevirtual 92, 3) := by decide +kernel
theorem dL_act_274 : decode cL_act 274 = .ok (.ireturn, 1) := by decide +kernel
theorem dL_act_275 : decode cL_act 275 = .ok (.aload_n 0, 1) := by decide +kernel
theorem dL_act_276 : decode cL_act 276 = .ok (.iload_n 3, 1) := by decide +kernel
theorem dL_act_277 : decode cL_act 277 = .ok (.iload 4, 2) := by decide +kernel
theorem dL_act_279 : decode cL_act 279 = .ok (.iload 6, 2) := by decide +kernel
theorem dL_act_281 : decode cL_act 281 = .ok (.iload_n 2, 1) := by decide +kernel
theorem dL_act_282 : decode cL_act 282 = .ok (.bipush 11, 2) := by decide +kernel
theorem dL_act_284 : decode cL_act 284 = .ok (.ishr, 1) := by decide +kernel
theorem dL_act_285 : decode cL_act 285 = .ok (.iconst 1, 1) := by decide +kernel
theorem dL_act_286 : decode cL_act 286 = .ok (.iand, 1) := by decide +kernel
theorem dL_act_287 : decode cL_act 287 = .ok (.invokevirtual 95, 3) := by decide +kernel
theorem dL_act_290 : decode cL_act 290 = .ok (.ireturn, 1) := by decide +kernel
theorem dL_act_291 : decode cL_act 291 = .ok (.aload_n 0, 1) := by decide +kernel
theorem dL_act_292 : decode cL_act 292 = .ok (.iload_n 3, 1) := by decide +kernel
theorem dL_act_293 : decode cL_act 293 = .ok (.iload 4, 2) := by decide +kernel
theorem dL_act_295 : decode cL_act 295 = .ok (.iload 6, 2) := by decide +kernel
theorem dL_act_297 : decode cL_act 297 = .ok (.invokevirtual 99, 3) := by decide +kernel
theorem dL_act_300 : decode cL_act 300 = .ok (.ireturn, 1) := by decide +kernel
theorem dL_act_301 : decode cL_act 301 = .ok (.aload_n 0, 1) := by decide +kernel
theorem dL_act_302 : decode cL_act 302 = .ok (.iload_n 3, 1) := by decide +kernel
theorem dL_act_303 : decode cL_act 303 = .ok (.iload 4, 2) := by decide +kernel
theorem dL_act_305 : decode cL_act 305 = .ok (.iload 6, 2) := by decide +kernel
theorem dL_act_307 : decode cL_act 307 = .ok (.iload_n 2, 1) := by decide +kernel
theorem dL_act_308 : decode cL_act 308 = .ok (.bipush 11, 2) := by decide +kernel
theorem dL_act_310 : decode cL_act 310 = .ok (.ishr, 1) := by decide +kernel
theorem dL_act_311 : decode cL_act 311 = .ok (.iconst 1, 1) := by decide +kernel
theorem dL_act_312 : decode cL_act 312 = .ok (.iand, 1) := by decide +kernel
theorem dL_act_313 : decode cL_act 313 = .ok (.invokevirtual 102, 3) := by decide +kernel
theorem dL_act_316 : decode cL_act 316 = .ok (.ireturn, 1) := by decide +kernel
theorem dL_act_317 : decode cL_act 317 = .ok (.aload_n 0, 1) := by decide +kernel
theorem dL_act_318 : decode cL_act 318 = .ok (.iload_n 3, 1) := by decide +kernel
theorem dL_act_319 : decode cL_act 319 = .ok (.iload 4, 2) := by decide +kernel
theorem dL_act_321 : decode cL_act 321 = .ok (.iload 5, 2) := by decide +kernel
theorem dL_act_323 : decode cL_act 323 = .ok (.invokevirtual 105, 3) := by decide +kernel
theorem dL_act_326 : decode cL_act 326 = .ok (.ireturn, 1) := by decide +kernel
theorem dL_act_327 : decode cL_act 327 = .ok (.aload_n 0, 1) := by decide +kernel
theorem dL_act_328 : decode cL_act 328 = .ok (.iload_n 3, 1) := by decide +kernel
theorem dL_act_329 : decode cL_act 329 = .ok (.iload_n 2, 1) := by decide +kernel
theorem dL_act_330 : decode cL_act 330 = .ok (.bipush 6, 2) := by decide +kernel
theorem dL_act_332 : decode cL_act 332 = .ok (.ishr, 1) := by decide +kernel
theorem dL_act_333 : decode cL_act 333 = .ok (.iconst 4, 1) := by decide +kernel
theorem dL_act_334 : decode cL_act 334 = .ok (.invokestatic 60, 3) := by decide +kernel
theorem dL_act_337 : decode cL_act 337 = .ok (.iload 4, 2) := by decide +kernel
theorem dL_act_339 : decode cL_act 339 = .ok (.iload 5, 2) := by decide +kernel
theorem dL_act_341 : decode cL_act 341 = .ok (.iload_n 2, 1) := by decide +kernel
theorem dL_act_342 : decode cL_act 342 = .ok (.bipush 8, 2) := by decide +kernel
theorem dL_act_344 : decode cL_act 344 = .ok (.ishr, 1) := by decide +kernel
theorem dL_act_345 : decode cL_act 345 = .ok (.iconst 4, 1) := by decide +kernel
theorem dL_act_346 : decode cL_act 346 = .ok (.invokestatic 60, 3) := by decide +kernel
theorem dL_act_349 : decode cL_act 349 = .ok (.invokevirtual 108, 3) := by decide +kernel
theorem dL_act_352 : decode cL_act 352 = .ok (.ireturn, 1) := by decide +kernel
theorem dL_act_353 : decode cL_act 353 = .ok (.aload_n 0, 1) := by decide +kernel
theorem dL_act_354 : decode cL_act 354 = .ok (.iload_n 3, 1) := by decide +kernel
theorem dL_act_355 : decode cL_act 355 = .ok (.iload 4, 2) := by decide +kernel
theorem dL_act_357 : decode cL_act 357 = .ok (.iload 5, 2) := by decide +kernel
theorem dL_act_359 : decode cL_act 359 = .ok (.invokevirtual 112, 3) := by decide +kernel
theorem dL_act_362 : decode cL_act 362 = .ok (.ireturn, 1) := by decide +kernel
theorem dL_act_363 : decode cL_act 363 = .ok (.aload_n 0, 1) := by decide +kernel
theorem dL_act_364 : decode cL_act 364 = .ok (.iload_n 3, 1) := by decide +kernel
theorem dL_act_365 : decode cL_act 365 = .ok (.iload 4, 2) := by decide +kernel
theorem dL_act_367 : decode cL_act 367 = .ok (.invokevirtual 115, 3) := by decide +kernel
theorem dL_act_370 : decode cL_act 370 = .ok (.ireturn, 1) := by decide +kernel
set_option maxRecDepth 20000 in
theorem ggL_isMark_X5_injections : GoodIn wsL_isMark wsX5_injections := goodIn_r _ [5, 6, 7, 8, 9, 10, 11, 12, 13, 14, 15, 16, 17, 18, 19, 20, 21] (by decide +kernel) (by decide +kernel)
set_option maxRecDepth 20000 in
theorem gL_isMark_X5_injections : GoodIn wsL_isMark (wsV RL 11 RX5 yX5_injections wsX5_injections) := goodIn_app (goodIn_of _ (by decide +kernel)) ggL_isMark_X5_injections
theorem dL_isMark_0 : decode cL_isMark 0 = .ok (.iload_n 1, 1) := by decide +kernel
theorem dL_isMark_1 : decode cL_isMark 1 = .ok (.bipush (-6), 2) := by decide +kernel
theorem dL_isMark_3 : decode cL_isMark 3 = .ok (.if_icmp .ne 17, 3) := by decide +kernel
theorem dL_isMark_6 : decode cL_isMark 6 = .ok (.iload_n 2, 1) := by decide +kernel
theorem dL_isMark_7 : decode cL_isMark 7 = .ok (.bipush (-6), 2) := by decide +kernel
theorem dL_isMark_9 : decode cL_isMark 9 = .ok (.if_icmp .ne 7, 3) := by decide +kernel
theorem dL_isMark_12 : decode cL_isMark 12 = .ok (.iconst 1, 1) := by decide +kernel
theorem dL_isMark_13 : decode cL_isMark 13 = .ok (.goto 34, 3) := by decide +kernel
theorem dL_isMark_16 : decode cL_isMark 16 = .ok (.iconst 0, 1) := by decide +kernel
theorem dL_isMark_17 : decode cL_isMark 17 = .ok (.goto 30, 3) := by decide +kernel
theorem dL_isMark_20 : decode cL_isMark 20 = .ok (.iload_n 1, 1) := by decide +kernel
theorem dL_isMark_21 : decode cL_isMark 21 = .ok (.ifCond .lt 25, 3) := by decide +kernel
theorem dL_isMark_24 : decode cL_isMark 24 = .ok (.iload_n 1, 1) := by decide +kernel
theorem dL_isMark_25 : decode cL_isMark 25 = .ok (.aload_n 0, 1) := by decide +kernel
theorem dL_isMark_26 : decode cL_isMark 26 = .ok (.invokevirtual 11, 3) := by decide +kernel
theorem dL_isMark_29 : decode cL_isMark 29 = .ok (.if_icmp .ge 17, 3) := by decide +kernel
theorem dL_isMark_32 : decode cL_isMark 32 = .ok (.iload_n 2, 1) := by decide +kernel
theorem dL_isMark_33 : decode cL_isMark 33 = .ok (.ifCond .lt 13, 3) := by decide +kernel
theorem dL_isMark_36 : decode cL_isMark 36 = .ok (.iload_n 2, 1) := by decide +kernel
theorem dL_isMark_37 : decode cL_isMark 37 = .ok (.bipush 99, 2) := by decide +kernel
theorem dL_isMark_39 : decode cL_isMark 39 = .ok (.if_icmp .gt 7, 3) := by decide +kernel
theorem dL_isMark_42 : decode cL_isMark 42 = .ok (.iconst 1, 1) := by decide +kernel
theorem dL_isMark_43 : decode cL_isMark 43 = .ok (.goto 4, 3) := by decide +kernel
theorem dL_isMark_46 : decode cL_isMark 46 = .ok (.iconst 0, 1) := by decide +kernel
theorem dL_isMark_47 : decode cL_isMark 47 = .ok (.ireturn, 1) := by decide +kernel
set_option maxRecDepth 20000 in
theorem ggL_holds_X5_origin : GoodIn wsL_holds wsX5_origin := goodIn_r _ [7, 8, 9, 10, 6, 11, 138, 139, 140, 141, 142, 143, 144, 145, 146, 147, 148, 149, 150, 151, 152, 153, 154, 155] (by decide +kernel) (by decide +kernel)
set_option maxRecDepth 20000 in
theorem gL_holds_X5_origin : GoodIn wsL_holds (wsV RL 29 RX5 yX5_origin wsX5_origin) := goodIn_app (goodIn_of _ (by decide +kernel)) ggL_holds_X5_origin
set_option maxRecDepth 20000 in
theorem ggL_holds_X5_value : GoodIn wsL_holds wsX5_value := goodIn_r _ [15, 8, 9, 10, 6, 11, 138, 139, 140, 141, 142, 143, 144, 145, 146, 147, 148, 149, 150, 151, 152, 153, 154, 155] (by decide +kernel) (by decide +kernel)
set_option maxRecDepth 20000 in
theorem gL_holds_X5_value : GoodIn wsL_holds (wsV RL 25 RX5 yX5_value wsX5_value) := goodIn_app (goodIn_of _ (by decide +kernel)) ggL_holds_X5_value
set_option maxRecDepth 20000 in
theorem ggL_holds_X5_hops : GoodIn wsL_holds wsX5_hops := goodIn_r _ [19, 8, 9, 10, 6, 11, 138, 139, 140, 141, 142, 143, 144, 145, 146, 147, 148, 149, 150, 151, 152, 153, 154, 155] (by decide +kernel) (by decide +kernel)
set_option maxRecDepth 20000 in
theorem gL_holds_X5_hops : GoodIn wsL_holds (wsV RL 32 RX5 yX5_hops wsX5_hops) := goodIn_app (goodIn_of _ (by decide +kernel)) ggL_holds_X5_hops
set_option maxRecDepth 20000 in
theorem ggL_holds_L_isMark : GoodIn wsL_holds wsL_isMark := goodIn_r _ [23, 24, 25, 26, 6, 27, 8, 138, 139, 140, 141, 142, 143, 144, 145, 146, 147, 148, 149, 150, 151, 152] (by decide +kernel) (by decide +kernel)
set_option maxRecDepth 20000 in
theorem gL_holds_L_isMark : GoodIn wsL_holds (va_wsS RL 119 yL_isMark wsL_isMark) := goodIn_app (goodIn_of _ (by decide +kernel)) ggL_holds_L_isMark
set_option maxRecDepth 20000 in
theorem ggL_holds_X5_source : GoodIn wsL_holds wsX5_source := goodIn_r _ [31, 8, 32, 33, 34, 35, 36, 138, 139, 140, 141, 142, 143, 144, 145, 146, 147, 148, 149, 150, 151, 152] (by decide +kernel) (by decide +kernel)
set_option maxRecDepth 20000 in
theorem gL_holds_X5_source : GoodIn wsL_holds (wsV RL 123 RX5 yX5_source wsX5_source) := goodIn_app (goodIn_of _ (by decide +kernel)) ggL_holds_X5_source
set_option maxRecDepth 20000 in
theorem ggL_holds_X5_mirrorValue : GoodIn wsL_holds wsX5_mirrorValue := goodIn_r _ [40, 8, 9, 10, 6, 11, 41, 33, 42, 43, 44, 138, 139, 140, 141, 142, 143, 144, 145, 146, 147, 148, 149, 150, 151, 152, 153, 154, 155] (by decide +kernel) (by decide +kernel)
set_option maxRecDepth 20000 in
theorem gL_holds_X5_mirrorValue : GoodIn wsL_holds (wsV RL 35 RX5 yX5_mirrorValue wsX5_mirrorValue) := goodIn_app (goodIn_of _ (by decide +kernel)) ggL_holds_X5_mirrorValue
set_option maxRecDepth 20000 in
theorem ggL_holds_X5_mirrorOrigin : GoodIn wsL_holds wsX5_mirrorOrigin := goodIn_r _ [48, 8, 9, 10, 6, 11, 41, 33, 42, 43, 44, 138, 139, 140, 141, 142, 143, 144, 145, 146, 147, 148, 149, 150, 151, 152, 153, 154, 155] (by decide +kernel) (by decide +kernel)
set_option maxRecDepth 20000 in
theorem gL_holds_X5_mirrorOrigin : GoodIn wsL_holds (wsV RL 38 RX5 yX5_mirrorOrigin wsX5_mirrorOrigin) := goodIn_app (goodIn_of _ (by decide +kernel)) ggL_holds_X5_mirrorOrigin
set_option maxRecDepth 20000 in
theorem ggL_holds_X5_registerOrigin : GoodIn wsL_holds wsX5_registerOrigin := goodIn_r _ [52, 8, 53, 54, 6, 55, 56, 57, 58, 59, 60, 61, 138, 139, 140, 141, 142, 143, 144, 145, 146, 147, 148, 149, 150, 151, 152, 153, 154, 155] (by decide +kernel) (by decide +kernel)
set_option maxRecDepth 20000 in
theorem gL_holds_X5_registerOrigin : GoodIn wsL_holds (wsV RL 48 RX5 yX5_registerOrigin wsX5_registerOrigin) := goodIn_app (goodIn_of _ (by decide +kernel)) ggL_holds_X5_registerOrigin
set_option maxRecDepth 20000 in
theorem ggL_holds_X5_register : GoodIn wsL_holds wsX5_register := goodIn_r _ [65, 8, 53, 54, 6, 55, 56, 57, 58, 59, 60, 61, 138, 139, 140, 141, 142, 143, 144, 145, 146, 147, 148, 149, 150, 151, 152, 153, 154, 155] (by decide +kernel) (by decide +kernel)
set_option maxRecDepth 20000 in
theorem gL_holds_X5_register : GoodIn wsL_holds (wsV RL 45 RX5 yX5_register wsX5_register) := goodIn_app (goodIn_of _ (by decide +kernel)) ggL_holds_X5_register
set_option maxRecDepth 20000 in
theorem ggL_holds_X5_registerHops : GoodIn wsL_holds wsX5_registerHops := goodIn_r _ [69, 8, 53, 54, 6, 55, 56, 57, 58, 59, 60, 61, 138, 139, 140, 141, 142, 143, 144, 145, 146, 147, 148, 149, 150, 151, 152, 153, 154, 155] (by decide +kernel) (by decide +kernel)
set_option maxRecDepth 20000 in
theorem gL_holds_X5_registerHops : GoodIn wsL_holds (wsV RL 51 RX5 yX5_registerHops wsX5_registerHops) := goodIn_app (goodIn_of _ (by decide +kernel)) ggL_holds_X5_registerHops
set_option maxRecDepth 20000 in
theorem ggL_holds_X5_stopped : GoodIn wsL_holds wsX5_stopped := goodIn_r _ [73, 8, 53, 54, 6, 55, 138, 139, 140, 141, 142, 143, 144, 145, 146, 147, 148, 149, 150, 151, 152] (by decide +kernel) (by decide +kernel)
set_option maxRecDepth 20000 in
theorem gL_holds_X5_stopped : GoodIn wsL_holds (wsV RL 57 RX5 yX5_stopped wsX5_stopped) := goodIn_app (goodIn_of _ (by decide +kernel)) ggL_holds_X5_stopped
