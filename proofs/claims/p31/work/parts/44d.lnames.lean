/-! rows of boats, places (printed) -/
set_option maxRecDepth 20000 in
theorem ggL_boats_X4_boat : GoodIn wsL_boats wsX4_boat := goodIn_r _ [5, 6, 7, 8, 9, 10, 11, 12, 13, 4, 14, 15, 16, 17, 18, 19, 20, 21, 22, 23, 24, 25, 26, 27, 28, 29, 30, 31, 32, 33, 34, 35, 36, 37, 102, 103, 104, 105, 106, 107, 108, 109, 110, 111, 112, 113, 114, 115, 116] (by decide +kernel) (by decide +kernel)
set_option maxRecDepth 20000 in
theorem gL_boats_X4_boat : GoodIn wsL_boats (wsV RL 23 RX4 yX4_boat wsX4_boat) := goodIn_app (goodIn_of _ (by decide +kernel)) ggL_boats_X4_boat
set_option maxRecDepth 20000 in
theorem ggL_boats_X4_rank : GoodIn wsL_boats wsX4_rank := goodIn_r _ [41, 6, 7, 11, 12, 13, 4, 14, 15, 42, 43, 44, 45, 46, 47, 19, 48, 49, 50, 51, 52, 53, 54, 55, 56, 102, 103, 104, 105, 106, 107, 108, 109, 110, 111, 112, 113, 114, 115, 116] (by decide +kernel) (by decide +kernel)
set_option maxRecDepth 20000 in
theorem gL_boats_X4_rank : GoodIn wsL_boats (wsV RL 27 RX4 yX4_rank wsX4_rank) := goodIn_app (goodIn_of _ (by decide +kernel)) ggL_boats_X4_rank
set_option maxRecDepth 20000 in
theorem ggL_boats_X4_set : GoodIn wsL_boats wsX4_set := goodIn_r _ [60, 6, 7, 61, 62, 63, 11, 12, 13, 4, 14, 15, 64, 65, 66, 19, 67, 21, 68, 69, 70, 71, 72, 73, 74, 75, 36, 76, 77, 78, 79, 31, 17, 18, 20, 22, 80, 81, 82, 83, 84, 85, 86, 87, 49, 50, 51, 52, 53, 54, 55, 56, 88, 89, 90, 91, 92, 93, 94, 37, 24, 25, 26, 27, 28, 29, 30, 102, 103, 104, 105, 106, 107, 108, 109, 110, 111, 112, 113, 114, 115, 116] (by decide +kernel) (by decide +kernel)
set_option maxRecDepth 20000 in
theorem gL_boats_X4_set : GoodIn wsL_boats (wsV RL 19 RX4 yX4_set wsX4_set) := goodIn_app (goodIn_of _ (by decide +kernel)) ggL_boats_X4_set
set_option maxRecDepth 20000 in
theorem ggL_boats_L_best : GoodIn wsL_boats wsL_best := goodIn_r _ [98] (by decide +kernel) (by decide +kernel)
set_option maxRecDepth 20000 in
theorem gL_boats_L_best : GoodIn wsL_boats (va_wsS RL 91 yL_best wsL_best) := goodIn_app (goodIn_of _ (by decide +kernel)) ggL_boats_L_best
set_option maxRecDepth 20000 in
theorem ggL_boats_L_units : GoodIn wsL_boats wsL_units := goodIn_r _ [101] (by decide +kernel) (by decide +kernel)
set_option maxRecDepth 20000 in
theorem gL_boats_L_units : GoodIn wsL_boats (va_wsS RL 94 yL_units wsL_units) := goodIn_app (goodIn_of _ (by decide +kernel)) ggL_boats_L_units
theorem dL_boats_0 : decode cL_boats 0 = .ok (.iconst 0, 1) := by decide +kernel
theorem dL_boats_1 : decode cL_boats 1 = .ok (.istore_n 2, 1) := by decide +kernel
theorem dL_boats_2 : decode cL_boats 2 = .ok (.iconst 0, 1) := by decide +kernel
theorem dL_boats_3 : decode cL_boats 3 = .ok (.istore_n 3, 1) := by decide +kernel
theorem dL_boats_4 : decode cL_boats 4 = .ok (.iconst 0, 1) := by decide +kernel
theorem dL_boats_5 : decode cL_boats 5 = .ok (.istore 4, 2) := by decide +kernel
theorem dL_boats_7 : decode cL_boats 7 = .ok (.iconst 0, 1) := by decide +kernel
theorem dL_boats_8 : decode cL_boats 8 = .ok (.istore 5, 2) := by decide +kernel
theorem dL_boats_10 : decode cL_boats 10 = .ok (.iconst 0, 1) := by decide +kernel
theorem dL_boats_11 : decode cL_boats 11 = .ok (.istore 6, 2) := by decide +kernel
theorem dL_boats_13 : decode cL_boats 13 = .ok (.iconst 0, 1) := by decide +kernel
theorem dL_boats_14 : decode cL_boats 14 = .ok (.istore 7, 2) := by decide +kernel
theorem dL_boats_16 : decode cL_boats 16 = .ok (.iload 7, 2) := by decide +kernel
theorem dL_boats_18 : decode cL_boats 18 = .ok (.bipush 8, 2) := by decide +kernel
theorem dL_boats_20 : decode cL_boats 20 = .ok (.if_icmp .ge 298, 3) := by decide +kernel
theorem dL_boats_23 : decode cL_boats 23 = .ok (.aload_n 0, 1) := by decide +kernel
theorem dL_boats_24 : decode cL_boats 24 = .ok (.iload_n 1, 1) := by decide +kernel
theorem dL_boats_25 : decode cL_boats 25 = .ok (.iload 7, 2) := by decide +kernel
theorem dL_boats_27 : decode cL_boats 27 = .ok (.iconst 0, 1) := by decide +kernel
theorem dL_boats_28 : decode cL_boats 28 = .ok (.invokevirtual 23, 3) := by decide +kernel
theorem dL_boats_31 : decode cL_boats 31 = .ok (.istore 8, 2) := by decide +kernel
theorem dL_boats_33 : decode cL_boats 33 = .ok (.aload_n 0, 1) := by decide +kernel
theorem dL_boats_34 : decode cL_boats 34 = .ok (.iload_n 1, 1) := by decide +kernel
theorem dL_boats_35 : decode cL_boats 35 = .ok (.iload 7, 2) := by decide +kernel
theorem dL_boats_37 : decode cL_boats 37 = .ok (.iconst 1, 1) := by decide +kernel
theorem dL_boats_38 : decode cL_boats 38 = .ok (.invokevirtual 23, 3) := by decide +kernel
theorem dL_boats_41 : decode cL_boats 41 = .ok (.istore 9, 2) := by decide +kernel
theorem dL_boats_43 : decode cL_boats 43 = .ok (.aload_n 0, 1) := by decide +kernel
theorem dL_boats_44 : decode cL_boats 44 = .ok (.iload_n 1, 1) := by decide +kernel
theorem dL_boats_45 : decode cL_boats 45 = .ok (.iload 7, 2) := by decide +kernel
theorem dL_boats_47 : decode cL_boats 47 = .ok (.iconst 2, 1) := by decide +kernel
theorem dL_boats_48 : decode cL_boats 48 = .ok (.invokevirtual 23, 3) := by decide +kernel
theorem dL_boats_51 : decode cL_boats 51 = .ok (.istore 10, 2) := by decide +kernel
theorem dL_boats_53 : decode cL_boats 53 = .ok (.iload 7, 2) := by decide +kernel
theorem dL_boats_55 : decode cL_boats 55 = .ok (.bipush 7, 2) := by decide +kernel
theorem dL_boats_57 : decode cL_boats 57 = .ok (.if_icmp .ge 21, 3) := by decide +kernel
theorem dL_boats_60 : decode cL_boats 60 = .ok (.aload_n 0, 1) := by decide +kernel
theorem dL_boats_61 : decode cL_boats 61 = .ok (.iload_n 1, 1) := by decide +kernel
theorem dL_boats_62 : decode cL_boats 62 = .ok (.sipush 256, 3) := by decide +kernel
theorem dL_boats_65 : decode cL_boats 65 = .ok (.iload 7, 2) := by decide +kernel
theorem dL_boats_67 : decode cL_boats 67 = .ok (.imul, 1) := by decide +kernel
theorem dL_boats_68 : decode cL_boats 68 = .ok (.sipush 256, 3) := by decide +kernel
theorem dL_boats_71 : decode cL_boats 71 = .ok (.iadd, 1) := by decide +kernel
theorem dL_boats_72 : decode cL_boats 72 = .ok (.invokevirtual 27, 3) := by decide +kernel
theorem dL_boats_75 : decode cL_boats 75 = .ok (.goto 9, 3) := by decide +kernel
theorem dL_boats_78 : decode cL_boats 78 = .ok (.aload_n 0, 1) := by decide +kernel
theorem dL_boats_79 : decode cL_boats 79 = .ok (.iload_n 1, 1) := by decide +kernel
theorem dL_boats_80 : decode cL_boats 80 = .ok (.iconst 0, 1) := by decide +kernel
theorem dL_boats_81 : decode cL_boats 81 = .ok (.invokevirtual 19, 3) := by decide +kernel
theorem dL_boats_84 : decode cL_boats 84 = .ok (.aload_n 0, 1) := by decide +kernel
theorem dL_boats_85 : decode cL_boats 85 = .ok (.iload_n 1, 1) := by decide +kernel
theorem dL_boats_86 : decode cL_boats 86 = .ok (.sipush 256, 3) := by decide +kernel
theorem dL_boats_89 : decode cL_boats 89 = .ok (.iload 7, 2) := by decide +kernel
theorem dL_boats_91 : decode cL_boats 91 = .ok (.imul, 1) := by decide +kernel
theorem dL_boats_92 : decode cL_boats 92 = .ok (.invokevirtual 27, 3) := by decide +kernel
theorem dL_boats_95 : decode cL_boats 95 = .ok (.isub, 1) := by decide +kernel
theorem dL_boats_96 : decode cL_boats 96 = .ok (.istore 11, 2) := by decide +kernel
theorem dL_boats_98 : decode cL_boats 98 = .ok (.iload 8, 2) := by decide +kernel
theorem dL_boats_100 : decode cL_boats 100 = .ok (.bipush (-5), 2) := by decide +kernel
theorem dL_boats_102 : decode cL_boats 102 = .ok (.if_icmp .ne 30, 3) := by decide +kernel
theorem dL_boats_105 : decode cL_boats 105 = .ok (.iload 9, 2) := by decide +kernel
theorem dL_boats_107 : decode cL_boats 107 = .ok (.bipush (-5), 2) := by decide +kernel
theorem dL_boats_109 : decode cL_boats 109 = .ok (.if_icmp .ne 21, 3) := by decide +kernel
theorem dL_boats_112 : decode cL_boats 112 = .ok (.iload 11, 2) := by decide +kernel
theorem dL_boats_114 : decode cL_boats 114 = .ok (.ifCond .ne 16, 3) := by decide +kernel
theorem dL_boats_117 : decode cL_boats 117 = .ok (.aload_n 0, 1) := by decide +kernel
theorem dL_boats_118 : decode cL_boats 118 = .ok (.iload_n 1, 1) := by decide +kernel
theorem dL_boats_119 : decode cL_boats 119 = .ok (.iload 7, 2) := by decide +kernel
theorem dL_boats_121 : decode cL_boats 121 = .ok (.iconst 5, 1) := by decide +kernel
theorem dL_boats_122 : decode cL_boats 122 = .ok (.invokevirtual 23, 3) := by decide +kernel
theorem dL_boats_125 : decode cL_boats 125 = .ok (.bipush (-5), 2) := by decide +kernel
theorem dL_boats_127 : decode cL_boats 127 = .ok (.if_icmp .eq 185, 3) := by decide +kernel
theorem dL_boats_130 : decode cL_boats 130 = .ok (.iconst 0, 1) := by decide +kernel
theorem dL_boats_131 : decode cL_boats 131 = .ok (.ireturn, 1) := by decide +kernel
theorem dL_boats_132 : decode cL_boats 132 = .ok (.iload 9, 2) := by decide +kernel
theorem dL_boats_134 : decode cL_boats 134 = .ok (.iload 10, 2) := by decide +kernel
theorem dL_boats_136 : decode cL_boats 136 = .ok (.invokestatic 91, 3) := by decide +kernel
theorem dL_boats_139 : decode cL_boats 139 = .ok (.istore 12, 2) := by decide +kernel
theorem dL_boats_141 : decode cL_boats 141 = .ok (.iload 9, 2) := by decide +kernel
theorem dL_boats_143 : decode cL_boats 143 = .ok (.iload 11, 2) := by decide +kernel
theorem dL_boats_145 : decode cL_boats 145 = .ok (.if_icmp .ne 122, 3) := by decide +kernel
theorem dL_boats_148 : decode cL_boats 148 = .ok (.iload 9, 2) := by decide +kernel
theorem dL_boats_150 : decode cL_boats 150 = .ok (.iconst 1, 1) := by decide +kernel
theorem dL_boats_151 : decode cL_boats 151 = .ok (.if_icmp .lt 116, 3) := by decide +kernel
theorem dL_boats_154 : decode cL_boats 154 = .ok (.iload 10, 2) := by decide +kernel
theorem dL_boats_156 : decode cL_boats 156 = .ok (.iconst 1, 1) := by decide +kernel
theorem dL_boats_157 : decode cL_boats 157 = .ok (.if_icmp .lt 110, 3) := by decide +kernel
theorem dL_boats_160 : decode cL_boats 160 = .ok (.iload 10, 2) := by decide +kernel
theorem dL_boats_162 : decode cL_boats 162 = .ok (.iload 9, 2) := by decide +kernel
theorem dL_boats_164 : decode cL_boats 164 = .ok (.if_icmp .gt 103, 3) := by decide +kernel
theorem dL_boats_167 : decode cL_boats 167 = .ok (.iload 8, 2) := by decide +kernel
theorem dL_boats_169 : decode cL_boats 169 = .ok (.ifCond .lt 98, 3) := by decide +kernel
theorem dL_boats_172 : decode cL_boats 172 = .ok (.iload 8, 2) := by decide +kernel
theorem dL_boats_174 : decode cL_boats 174 = .ok (.iconst 2, 1) := by decide +kernel
theorem dL_boats_175 : decode cL_boats 175 = .ok (.if_icmp .gt 92, 3) := by decide +kernel
theorem dL_boats_178 : decode cL_boats 178 = .ok (.iload 8, 2) := by decide +kernel
theorem dL_boats_180 : decode cL_boats 180 = .ok (.ifCond .ne 10, 3) := by decide +kernel
theorem dL_boats_183 : decode cL_boats 183 = .ok (.iload 9, 2) := by decide +kernel
theorem dL_boats_185 : decode cL_boats 185 = .ok (.bipush 24, 2) := by decide +kernel
theorem dL_boats_187 : decode cL_boats 187 = .ok (.if_icmp .gt 80, 3) := by decide +kernel
theorem dL_boats_190 : decode cL_boats 190 = .ok (.iload 8, 2) := by decide +kernel
theorem dL_boats_192 : decode cL_boats 192 = .ok (.iconst 2, 1) := by decide +kernel
theorem dL_boats_193 : decode cL_boats 193 = .ok (.if_icmp .ne 10, 3) := by decide +kernel
theorem dL_boats_196 : decode cL_boats 196 = .ok (.iload 10, 2) := by decide +kernel
theorem dL_boats_198 : decode cL_boats 198 = .ok (.bipush 8, 2) := by decide +kernel
theorem dL_boats_200 : decode cL_boats 200 = .ok (.if_icmp .gt 67, 3) := by decide +kernel
theorem dL_boats_203 : decode cL_boats 203 = .ok (.aload_n 0, 1) := by decide +kernel
theorem dL_boats_204 : decode cL_boats 204 = .ok (.iload_n 1, 1) := by decide +kernel
theorem dL_boats_205 : decode cL_boats 205 = .ok (.iload 7, 2) := by decide +kernel
theorem dL_boats_207 : decode cL_boats 207 = .ok (.iconst 3, 1) := by decide +kernel
theorem dL_boats_208 : decode cL_boats 208 = .ok (.invokevirtual 23, 3) := by decide +kernel
theorem dL_boats_211 : decode cL_boats 211 = .ok (.iload 8, 2) := by decide +kernel
theorem dL_boats_213 : decode cL_boats 213 = .ok (.iload 9, 2) := by decide +kernel
theorem dL_boats_215 : decode cL_boats 215 = .ok (.iload 10, 2) := by decide +kernel
theorem dL_boats_217 : decode cL_boats 217 = .ok (.invokestatic 94, 3) := by decide +kernel
theorem dL_boats_220 : decode cL_boats 220 = .ok (.if_icmp .ne 47, 3) := by decide +kernel
theorem dL_boats_223 : decode cL_boats 223 = .ok (.aload_n 0, 1) := by decide +kernel
theorem dL_boats_224 : decode cL_boats 224 = .ok (.iload_n 1, 1) := by decide +kernel
theorem dL_boats_225 : decode cL_boats 225 = .ok (.iload 7, 2) := by decide +kernel
theorem dL_boats_227 : decode cL_boats 227 = .ok (.iconst 4, 1) := by decide +kernel
theorem dL_boats_228 : decode cL_boats 228 = .ok (.invokevirtual 23, 3) := by decide +kernel
theorem dL_boats_231 : decode cL_boats 231 = .ok (.iload 12, 2) := by decide +kernel
theorem dL_boats_233 : decode cL_boats 233 = .ok (.if_icmp .ne 34, 3) := by decide +kernel
theorem dL_boats_236 : decode cL_boats 236 = .ok (.aload_n 0, 1) := by decide +kernel
theorem dL_boats_237 : decode cL_boats 237 = .ok (.iload_n 1, 1) := by decide +kernel
theorem dL_boats_238 : decode cL_boats 238 = .ok (.iload 7, 2) := by decide +kernel
theorem dL_boats_240 : decode cL_boats 240 = .ok (.iconst 5, 1) := by decide +kernel
theorem dL_boats_241 : decode cL_boats 241 = .ok (.invokevirtual 23, 3) := by decide +kernel
theorem dL_boats_244 : decode cL_boats 244 = .ok (.iload 8, 2) := by decide +kernel
theorem dL_boats_246 : decode cL_boats 246 = .ok (.iload 12, 2) := by decide +kernel
theorem dL_boats_248 : decode cL_boats 248 = .ok (.if_icmp .ne 7, 3) := by decide +kernel
theorem dL_boats_251 : decode cL_boats 251 = .ok (.iconst 0, 1) := by decide +kernel
theorem dL_boats_252 : decode cL_boats 252 = .ok (.goto 12, 3) := by decide +kernel
theorem dL_boats_255 : decode cL_boats 255 = .ok (.iload 12, 2) := by decide +kernel
theorem dL_boats_257 : decode cL_boats 257 = .ok (.iload 9, 2) := by decide +kernel
theorem dL_boats_259 : decode cL_boats 259 = .ok (.iload 10, 2) := by decide +kernel
theorem dL_boats_261 : decode cL_boats 261 = .ok (.invokestatic 94, 3) := by decide +kernel
theorem dL_boats_264 : decode cL_boats 264 = .ok (.if_icmp .eq 5, 3) := by decide +kernel
theorem dL_boats_267 : decode cL_boats 267 = .ok (.iconst 0, 1) := by decide +kernel
theorem dL_boats_268 : decode cL_boats 268 = .ok (.ireturn, 1) := by decide +kernel
theorem dL_boats_269 : decode cL_boats 269 = .ok (.iload_n 2, 1) := by decide +kernel
theorem dL_boats_270 : decode cL_boats 270 = .ok (.iload 9, 2) := by decide +kernel
theorem dL_boats_272 : decode cL_boats 272 = .ok (.iadd, 1) := by decide +kernel
theorem dL_boats_273 : decode cL_boats 273 = .ok (.istore_n 2, 1) := by decide +kernel
theorem dL_boats_274 : decode cL_boats 274 = .ok (.iinc 3 1, 3) := by decide +kernel
theorem dL_boats_277 : decode cL_boats 277 = .ok (.iload 4, 2) := by decide +kernel
theorem dL_boats_279 : decode cL_boats 279 = .ok (.iload 8, 2) := by decide +kernel
theorem dL_boats_281 : decode cL_boats 281 = .ok (.iload 9, 2) := by decide +kernel
theorem dL_boats_283 : decode cL_boats 283 = .ok (.iload 10, 2) := by decide +kernel
theorem dL_boats_285 : decode cL_boats 285 = .ok (.invokestatic 94, 3) := by decide +kernel
theorem dL_boats_288 : decode cL_boats 288 = .ok (.iadd, 1) := by decide +kernel
theorem dL_boats_289 : decode cL_boats 289 = .ok (.istore 4, 2) := by decide +kernel
theorem dL_boats_291 : decode cL_boats 291 = .ok (.iload 5, 2) := by decide +kernel
theorem dL_boats_293 : decode cL_boats 293 = .ok (.iload 12, 2) := by decide +kernel
theorem dL_boats_295 : decode cL_boats 295 = .ok (.iload 9, 2) := by decide +kernel
theorem dL_boats_297 : decode cL_boats 297 = .ok (.iload 10, 2) := by decide +kernel
theorem dL_boats_299 : decode cL_boats 299 = .ok (.invokestatic 94, 3) := by decide +kernel
theorem dL_boats_302 : decode cL_boats 302 = .ok (.iadd, 1) := by decide +kernel
theorem dL_boats_303 : decode cL_boats 303 = .ok (.istore 5, 2) := by decide +kernel
theorem dL_boats_305 : decode cL_boats 305 = .ok (.iload 6, 2) := by decide +kernel
theorem dL_boats_307 : decode cL_boats 307 = .ok (.iload 10, 2) := by decide +kernel
theorem dL_boats_309 : decode cL_boats 309 = .ok (.iadd, 1) := by decide +kernel
theorem dL_boats_310 : decode cL_boats 310 = .ok (.istore 6, 2) := by decide +kernel
theorem dL_boats_312 : decode cL_boats 312 = .ok (.iinc 7 1, 3) := by decide +kernel
theorem dL_boats_315 : decode cL_boats 315 = .ok (.goto (-299), 3) := by decide +kernel
theorem dL_boats_318 : decode cL_boats 318 = .ok (.aload_n 0, 1) := by decide +kernel
theorem dL_boats_319 : decode cL_boats 319 = .ok (.iload_n 1, 1) := by decide +kernel
theorem dL_boats_320 : decode cL_boats 320 = .ok (.iconst 0, 1) := by decide +kernel
theorem dL_boats_321 : decode cL_boats 321 = .ok (.invokevirtual 19, 3) := by decide +kernel
theorem dL_boats_324 : decode cL_boats 324 = .ok (.iload_n 2, 1) := by decide +kernel
theorem dL_boats_325 : decode cL_boats 325 = .ok (.if_icmp .ne 59, 3) := by decide +kernel
theorem dL_boats_328 : decode cL_boats 328 = .ok (.aload_n 0, 1) := by decide +kernel
theorem dL_boats_329 : decode cL_boats 329 = .ok (.iload_n 1, 1) := by decide +kernel
theorem dL_boats_330 : decode cL_boats 330 = .ok (.iconst 1, 1) := by decide +kernel
theorem dL_boats_331 : decode cL_boats 331 = .ok (.invokevirtual 19, 3) := by decide +kernel
theorem dL_boats_334 : decode cL_boats 334 = .ok (.iload_n 3, 1) := by decide +kernel
theorem dL_boats_335 : decode cL_boats 335 = .ok (.if_icmp .ne 49, 3) := by decide +kernel
theorem dL_boats_338 : decode cL_boats 338 = .ok (.aload_n 0, 1) := by decide +kernel
theorem dL_boats_339 : decode cL_boats 339 = .ok (.iload_n 1, 1) := by decide +kernel
theorem dL_boats_340 : decode cL_boats 340 = .ok (.iconst 2, 1) := by decide +kernel
theorem dL_boats_341 : decode cL_boats 341 = .ok (.invokevirtual 19, 3) := by decide +kernel
theorem dL_boats_344 : decode cL_boats 344 = .ok (.iload 4, 2) := by decide +kernel
theorem dL_boats_346 : decode cL_boats 346 = .ok (.if_icmp .ne 38, 3) := by decide +kernel
theorem dL_boats_349 : decode cL_boats 349 = .ok (.aload_n 0, 1) := by decide +kernel
theorem dL_boats_350 : decode cL_boats 350 = .ok (.iload_n 1, 1) := by decide +kernel
theorem dL_boats_351 : decode cL_boats 351 = .ok (.bipush 9, 2) := by decide +kernel
theorem dL_boats_353 : decode cL_boats 353 = .ok (.invokevirtual 19, 3) := by decide +kernel
theorem dL_boats_356 : decode cL_boats 356 = .ok (.iload 5, 2) := by decide +kernel
theorem dL_boats_358 : decode cL_boats 358 = .ok (.if_icmp .ne 26, 3) := by decide +kernel
theorem dL_boats_361 : decode cL_boats 361 = .ok (.aload_n 0, 1) := by decide +kernel
theorem dL_boats_362 : decode cL_boats 362 = .ok (.iload_n 1, 1) := by decide +kernel
theorem dL_boats_363 : decode cL_boats 363 = .ok (.bipush 6, 2) := by decide +kernel
theorem dL_boats_365 : decode cL_boats 365 = .ok (.invokevirtual 19, 3) := by decide +kernel
theorem dL_boats_368 : decode cL_boats 368 = .ok (.iload 6, 2) := by decide +kernel
theorem dL_boats_370 : decode cL_boats 370 = .ok (.if_icmp .ne 14, 3) := by decide +kernel
theorem dL_boats_373 : decode cL_boats 373 = .ok (.iload 5, 2) := by decide +kernel
theorem dL_boats_375 : decode cL_boats 375 = .ok (.iload 4, 2) := by decide +kernel
theorem dL_boats_377 : decode cL_boats 377 = .ok (.if_icmp .gt 7, 3) := by decide +kernel
theorem dL_boats_380 : decode cL_boats 380 = .ok (.iconst 1, 1) := by decide +kernel
theorem dL_boats_381 : decode cL_boats 381 = .ok (.goto 4, 3) := by decide +kernel
theorem dL_boats_384 : decode cL_boats 384 = .ok (.iconst 0, 1) := by decide +kernel
theorem dL_boats_385 : decode cL_boats 385 = .ok (.ireturn, 1) := by decide +kernel
set_option maxRecDepth 20000 in
theorem ggL_places_X4_set : GoodIn wsL_places wsX4_set := goodIn_r _ [5, 6, 7, 8, 9, 10, 11, 12, 13, 4, 14, 15, 16, 17, 18, 19, 20, 21, 22, 23, 24, 25, 26, 27, 28, 29, 30, 31, 32, 33, 34, 35, 36, 37, 38, 39, 40, 41, 42, 43, 44, 45, 46, 47, 48, 49, 50, 51, 52, 53, 54, 55, 56, 57, 58, 59, 60, 61, 62, 63, 64, 65, 66, 67, 68, 69, 70, 117, 118, 119, 120, 121, 122, 123, 124, 125, 126, 127, 128, 129, 130, 131] (by decide +kernel) (by decide +kernel)
set_option maxRecDepth 20000 in
theorem gL_places_X4_set : GoodIn wsL_places (wsV RL 19 RX4 yX4_set wsX4_set) := goodIn_app (goodIn_of _ (by decide +kernel)) ggL_places_X4_set
set_option maxRecDepth 20000 in
theorem ggL_places_X4_rank : GoodIn wsL_places wsX4_rank := goodIn_r _ [74, 6, 7, 11, 12, 13, 4, 14, 15, 75, 76, 77, 78, 79, 80, 19, 81, 48, 49, 50, 51, 52, 53, 54, 55, 117, 118, 119, 120, 121, 122, 123, 124, 125, 126, 127, 128, 129, 130, 131] (by decide +kernel) (by decide +kernel)
set_option maxRecDepth 20000 in
theorem gL_places_X4_rank : GoodIn wsL_places (wsV RL 27 RX4 yX4_rank wsX4_rank) := goodIn_app (goodIn_of _ (by decide +kernel)) ggL_places_X4_rank
set_option maxRecDepth 20000 in
theorem ggL_places_X4_next : GoodIn wsL_places wsX4_next := goodIn_r _ [85, 6, 7, 11, 12, 13, 4, 14, 15, 75, 76, 77, 86, 87, 88, 19, 89, 90, 79, 80, 81, 48, 49, 50, 51, 52, 53, 54, 55, 91, 45, 46, 47, 56, 57, 58, 117, 118, 119, 120, 121, 122, 123, 124, 125, 126, 127, 128, 129, 130, 131] (by decide +kernel) (by decide +kernel)
set_option maxRecDepth 20000 in
theorem gL_places_X4_next : GoodIn wsL_places (wsV RL 30 RX4 yX4_next wsX4_next) := goodIn_app (goodIn_of _ (by decide +kernel)) ggL_places_X4_next
set_option maxRecDepth 20000 in
theorem ggL_places_X4_at : GoodIn wsL_places wsX4_at := goodIn_r _ [95, 6, 7, 11, 12, 13, 4, 14, 15, 44, 45, 46, 19, 47, 48, 49, 50, 51, 52, 53, 54, 55, 56, 57, 58, 117, 118, 119, 120, 121, 122, 123, 124, 125, 126, 127, 128, 129, 130, 131] (by decide +kernel) (by decide +kernel)
set_option maxRecDepth 20000 in
theorem gL_places_X4_at : GoodIn wsL_places (wsV RL 73 RX4 yX4_at wsX4_at) := goodIn_app (goodIn_of _ (by decide +kernel)) ggL_places_X4_at
set_option maxRecDepth 20000 in
theorem ggL_places_X4_nearest : GoodIn wsL_places wsX4_nearest := goodIn_r _ [99, 6, 7, 11, 12, 13, 4, 14, 15, 75, 76, 77, 78, 79, 80, 19, 81, 48, 49, 50, 51, 52, 53, 54, 55, 44, 45, 46, 47, 56, 57, 58, 86, 87, 88, 89, 90, 91, 117, 118, 119, 120, 121, 122, 123, 124, 125, 126, 127, 128, 129, 130, 131] (by decide +kernel) (by decide +kernel)
set_option maxRecDepth 20000 in
theorem gL_places_X4_nearest : GoodIn wsL_places (wsV RL 76 RX4 yX4_nearest wsX4_nearest) := goodIn_app (goodIn_of _ (by decide +kernel)) ggL_places_X4_nearest
set_option maxRecDepth 20000 in
theorem ggL_places_X4_has : GoodIn wsL_places wsX4_has := goodIn_r _ [103, 6, 7, 11, 12, 13, 4, 14, 15, 75, 76, 77, 104, 105, 106, 19, 107, 48, 117, 118, 119, 120, 121, 122, 123, 124, 125, 126, 127, 128, 129, 130, 131] (by decide +kernel) (by decide +kernel)
set_option maxRecDepth 20000 in
theorem gL_places_X4_has : GoodIn wsL_places (wsV RL 70 RX4 yX4_has wsX4_has) := goodIn_app (goodIn_of _ (by decide +kernel)) ggL_places_X4_has
set_option maxRecDepth 20000 in
theorem ggL_places_X4_gap : GoodIn wsL_places wsX4_gap := goodIn_r _ [111, 6, 7, 11, 12, 13, 4, 14, 15, 112, 113, 114, 19, 115, 116, 105, 106, 107, 48, 76, 77, 117, 118, 119, 120, 121, 122, 123, 124, 125, 126, 127, 128, 129, 130, 131] (by decide +kernel) (by decide +kernel)
set_option maxRecDepth 20000 in
theorem gL_places_X4_gap : GoodIn wsL_places (wsV RL 79 RX4 yX4_gap wsX4_gap) := goodIn_app (goodIn_of _ (by decide +kernel)) ggL_places_X4_gap
theorem dL_places_0 : decode cL_places 0 = .ok (.aload_n 0, 1) := by decide +kernel
theorem dL_places_1 : decode cL_places 1 = .ok (.iload_n 1, 1) := by decide +kernel
theorem dL_places_2 : decode cL_places 2 = .ok (.iconst 0, 1) := by decide +kernel
theorem dL_places_3 : decode cL_places 3 = .ok (.invokevirtual 19, 3) := by decide +kernel
theorem dL_places_6 : decode cL_places 6 = .ok (.istore_n 3, 1) := by decide +kernel
theorem dL_places_7 : decode cL_places 7 = .ok (.aload_n 0, 1) := by decide +kernel
theorem dL_places_8 : decode cL_places 8 = .ok (.iload_n 1, 1) := by decide +kernel
theorem dL_places_9 : decode cL_places 9 = .ok (.iload_n 2, 1) := by decide +kernel
theorem dL_places_10 : decode cL_places 10 = .ok (.invokevirtual 27, 3) := by decide +kernel
theorem dL_places_13 : decode cL_places 13 = .ok (.istore 4, 2) := by decide +kernel
theorem dL_places_15 : decode cL_places 15 = .ok (.aload_n 0, 1) := by decide +kernel
theorem dL_places_16 : decode cL_places 16 = .ok (.iload_n 1, 1) := by decide +kernel
theorem dL_places_17 : decode cL_places 17 = .ok (.iload_n 2, 1) := by decide +kernel
theorem dL_places_18 : decode cL_places 18 = .ok (.invokevirtual 30, 3) := by decide +kernel
theorem dL_places_21 : decode cL_places 21 = .ok (.istore 5, 2) := by decide +kernel
theorem dL_places_23 : decode cL_places 23 = .ok (.iload 4, 2) := by decide +kernel
theorem dL_places_25 : decode cL_places 25 = .ok (.ifCond .le 15, 3) := by decide +kernel
theorem dL_places_28 : decode cL_places 28 = .ok (.aload_n 0, 1) := by decide +kernel
theorem dL_places_29 : decode cL_places 29 = .ok (.iload_n 1, 1) := by decide +kernel
theorem dL_places_30 : decode cL_places 30 = .ok (.iload 4, 2) := by decide +kernel
theorem dL_places_32 : decode cL_places 32 = .ok (.iconst 1, 1) := by decide +kernel
theorem dL_places_33 : decode cL_places 33 = .ok (.isub, 1) := by decide +kernel
theorem dL_places_34 : decode cL_places 34 = .ok (.invokevirtual 73, 3) := by decide +kernel
theorem dL_places_37 : decode cL_places 37 = .ok (.goto 5, 3) := by decide +kernel
theorem dL_places_40 : decode cL_places 40 = .ok (.bipush (-5), 2) := by decide +kernel
theorem dL_places_42 : decode cL_places 42 = .ok (.istore 6, 2) := by decide +kernel
theorem dL_places_44 : decode cL_places 44 = .ok (.aload_n 0, 1) := by decide +kernel
theorem dL_places_45 : decode cL_places 45 = .ok (.iload_n 1, 1) := by decide +kernel
theorem dL_places_46 : decode cL_places 46 = .ok (.iload_n 2, 1) := by decide +kernel
theorem dL_places_47 : decode cL_places 47 = .ok (.invokevirtual 76, 3) := by decide +kernel
theorem dL_places_50 : decode cL_places 50 = .ok (.istore 7, 2) := by decide +kernel
theorem dL_places_52 : decode cL_places 52 = .ok (.iload 6, 2) := by decide +kernel
theorem dL_places_54 : decode cL_places 54 = .ok (.ifCond .ge 8, 3) := by decide +kernel
theorem dL_places_57 : decode cL_places 57 = .ok (.iload 5, 2) := by decide +kernel
theorem dL_places_59 : decode cL_places 59 = .ok (.goto 31, 3) := by decide +kernel
theorem dL_places_62 : decode cL_places 62 = .ok (.iload 5, 2) := by decide +kernel
theorem dL_places_64 : decode cL_places 64 = .ok (.ifCond .ge 8, 3) := by decide +kernel
theorem dL_places_67 : decode cL_places 67 = .ok (.iload 6, 2) := by decide +kernel
theorem dL_places_69 : decode cL_places 69 = .ok (.goto 21, 3) := by decide +kernel
theorem dL_places_72 : decode cL_places 72 = .ok (.iload 5, 2) := by decide +kernel
theorem dL_places_74 : decode cL_places 74 = .ok (.iload_n 2, 1) := by decide +kernel
theorem dL_places_75 : decode cL_places 75 = .ok (.isub, 1) := by decide +kernel
theorem dL_places_76 : decode cL_places 76 = .ok (.iload_n 2, 1) := by decide +kernel
theorem dL_places_77 : decode cL_places 77 = .ok (.iload 6, 2) := by decide +kernel
theorem dL_places_79 : decode cL_places 79 = .ok (.isub, 1) := by decide +kernel
theorem dL_places_80 : decode cL_places 80 = .ok (.if_icmp .ge 8, 3) := by decide +kernel
theorem dL_places_83 : decode cL_places 83 = .ok (.iload 5, 2) := by decide +kernel
theorem dL_places_85 : decode cL_places 85 = .ok (.goto 5, 3) := by decide +kernel
theorem dL_places_88 : decode cL_places 88 = .ok (.iload 6, 2) := by decide +kernel
theorem dL_places_90 : decode cL_places 90 = .ok (.istore 8, 2) := by decide +kernel
theorem dL_places_92 : decode cL_places 92 = .ok (.aload_n 0, 1) := by decide +kernel
theorem dL_places_93 : decode cL_places 93 = .ok (.iload_n 1, 1) := by decide +kernel
theorem dL_places_94 : decode cL_places 94 = .ok (.iload 4, 2) := by decide +kernel
theorem dL_places_96 : decode cL_places 96 = .ok (.invokevirtual 73, 3) := by decide +kernel
theorem dL_places_99 : decode cL_places 99 = .ok (.iload 5, 2) := by decide +kernel
theorem dL_places_101 : decode cL_places 101 = .ok (.if_icmp .ne 103, 3) := by decide +kernel
theorem dL_places_104 : decode cL_places 104 = .ok (.iload 6, 2) := by decide +kernel
theorem dL_places_106 : decode cL_places 106 = .ok (.iload_n 2, 1) := by decide +kernel
theorem dL_places_107 : decode cL_places 107 = .ok (.if_icmp .ge 97, 3) := by decide +kernel
theorem dL_places_110 : decode cL_places 110 = .ok (.iload 5, 2) := by decide +kernel
theorem dL_places_112 : decode cL_places 112 = .ok (.ifCond .ge 12, 3) := by decide +kernel
theorem dL_places_115 : decode cL_places 115 = .ok (.iload 4, 2) := by decide +kernel
theorem dL_places_117 : decode cL_places 117 = .ok (.iload_n 3, 1) := by decide +kernel
theorem dL_places_118 : decode cL_places 118 = .ok (.if_icmp .ne 86, 3) := by decide +kernel
theorem dL_places_121 : decode cL_places 121 = .ok (.goto 32, 3) := by decide +kernel
theorem dL_places_124 : decode cL_places 124 = .ok (.aload_n 0, 1) := by decide +kernel
theorem dL_places_125 : decode cL_places 125 = .ok (.iload_n 1, 1) := by decide +kernel
theorem dL_places_126 : decode cL_places 126 = .ok (.iload 5, 2) := by decide +kernel
theorem dL_places_128 : decode cL_places 128 = .ok (.invokevirtual 27, 3) := by decide +kernel
theorem dL_places_131 : decode cL_places 131 = .ok (.iload 4, 2) := by decide +kernel
theorem dL_places_133 : decode cL_places 133 = .ok (.if_icmp .ne 71, 3) := by decide +kernel
theorem dL_places_136 : decode cL_places 136 = .ok (.aload_n 0, 1) := by decide +kernel
theorem dL_places_137 : decode cL_places 137 = .ok (.iload_n 1, 1) := by decide +kernel
theorem dL_places_138 : decode cL_places 138 = .ok (.iload 5, 2) := by decide +kernel
theorem dL_places_140 : decode cL_places 140 = .ok (.invokevirtual 70, 3) := by decide +kernel
theorem dL_places_143 : decode cL_places 143 = .ok (.iconst 1, 1) := by decide +kernel
theorem dL_places_144 : decode cL_places 144 = .ok (.if_icmp .ne 60, 3) := by decide +kernel
theorem dL_places_147 : decode cL_places 147 = .ok (.iload 5, 2) := by decide +kernel
theorem dL_places_149 : decode cL_places 149 = .ok (.iload_n 2, 1) := by decide +kernel
theorem dL_places_150 : decode cL_places 150 = .ok (.if_icmp .lt 54, 3) := by decide +kernel
theorem dL_places_153 : decode cL_places 153 = .ok (.aload_n 0, 1) := by decide +kernel
theorem dL_places_154 : decode cL_places 154 = .ok (.iload_n 1, 1) := by decide +kernel
theorem dL_places_155 : decode cL_places 155 = .ok (.iload_n 2, 1) := by decide +kernel
theorem dL_places_156 : decode cL_places 156 = .ok (.invokevirtual 70, 3) := by decide +kernel
theorem dL_places_159 : decode cL_places 159 = .ok (.iconst 1, 1) := by decide +kernel
theorem dL_places_160 : decode cL_places 160 = .ok (.if_icmp .ne 7, 3) := by decide +kernel
theorem dL_places_163 : decode cL_places 163 = .ok (.iconst 1, 1) := by decide +kernel
theorem dL_places_164 : decode cL_places 164 = .ok (.goto 4, 3) := by decide +kernel
theorem dL_places_167 : decode cL_places 167 = .ok (.iconst 0, 1) := by decide +kernel
theorem dL_places_168 : decode cL_places 168 = .ok (.iload 5, 2) := by decide +kernel
theorem dL_places_170 : decode cL_places 170 = .ok (.iload_n 2, 1) := by decide +kernel
theorem dL_places_171 : decode cL_places 171 = .ok (.if_icmp .ne 7, 3) := by decide +kernel
theorem dL_places_174 : decode cL_places 174 = .ok (.iconst 1, 1) := by decide +kernel
theorem dL_places_175 : decode cL_places 175 = .ok (.goto 4, 3) := by decide +kernel
theorem dL_places_178 : decode cL_places 178 = .ok (.iconst 0, 1) := by decide +kernel
theorem dL_places_179 : decode cL_places 179 = .ok (.if_icmp .ne 25, 3) := by decide +kernel
theorem dL_places_182 : decode cL_places 182 = .ok (.iload 7, 2) := by decide +kernel
theorem dL_places_184 : decode cL_places 184 = .ok (.iload 8, 2) := by decide +kernel
theorem dL_places_186 : decode cL_places 186 = .ok (.if_icmp .ne 18, 3) := by decide +kernel
theorem dL_places_189 : decode cL_places 189 = .ok (.aload_n 0, 1) := by decide +kernel
theorem dL_places_190 : decode cL_places 190 = .ok (.iload_n 1, 1) := by decide +kernel
theorem dL_places_191 : decode cL_places 191 = .ok (.iload_n 3, 1) := by decide +kernel
theorem dL_places_192 : decode cL_places 192 = .ok (.invokevirtual 73, 3) := by decide +kernel
theorem dL_places_195 : decode cL_places 195 = .ok (.bipush (-5), 2) := by decide +kernel
theorem dL_places_197 : decode cL_places 197 = .ok (.if_icmp .ne 7, 3) := by decide +kernel
theorem dL_places_200 : decode cL_places 200 = .ok (.iconst 1, 1) := by decide +kernel
theorem dL_places_201 : decode cL_places 201 = .ok (.goto 4, 3) := by decide +kernel
theorem dL_places_204 : decode cL_places 204 = .ok (.iconst 0, 1) := by decide +kernel
theorem dL_places_205 : decode cL_places 205 = .ok (.istore 9, 2) := by decide +kernel
theorem dL_places_207 : decode cL_places 207 = .ok (.iload 9, 2) := by decide +kernel
theorem dL_places_209 : decode cL_places 209 = .ok (.ifCond .eq 88, 3) := by decide +kernel
theorem dL_places_212 : decode cL_places 212 = .ok (.iload_n 3, 1) := by decide +kernel
theorem dL_places_213 : decode cL_places 213 = .ok (.ifCond .ne 30, 3) := by decide +kernel
theorem dL_places_216 : decode cL_places 216 = .ok (.aload_n 0, 1) := by decide +kernel
theorem dL_places_217 : decode cL_places 217 = .ok (.iload_n 1, 1) := by decide +kernel
theorem dL_places_218 : decode cL_places 218 = .ok (.bipush 7, 2) := by decide +kernel
theorem dL_places_220 : decode cL_places 220 = .ok (.invokevirtual 19, 3) := by decide +kernel
theorem dL_places_223 : decode cL_places 223 = .ok (.bipush (-5), 2) := by decide +kernel
theorem dL_places_225 : decode cL_places 225 = .ok (.if_icmp .ne 72, 3) := by decide +kernel
theorem dL_places_228 : decode cL_places 228 = .ok (.aload_n 0, 1) := by decide +kernel
theorem dL_places_229 : decode cL_places 229 = .ok (.iload_n 1, 1) := by decide +kernel
theorem dL_places_230 : decode cL_places 230 = .ok (.bipush 8, 2) := by decide +kernel
theorem dL_places_232 : decode cL_places 232 = .ok (.invokevirtual 19, 3) := by decide +kernel
theorem dL_places_235 : decode cL_places 235 = .ok (.bipush (-5), 2) := by decide +kernel
theorem dL_places_237 : decode cL_places 237 = .ok (.if_icmp .ne 60, 3) := by decide +kernel
theorem dL_places_240 : decode cL_places 240 = .ok (.goto 53, 3) := by decide +kernel
theorem dL_places_243 : decode cL_places 243 = .ok (.aload_n 0, 1) := by decide +kernel
theorem dL_places_244 : decode cL_places 244 = .ok (.iload_n 1, 1) := by decide +kernel
theorem dL_places_245 : decode cL_places 245 = .ok (.bipush 7, 2) := by decide +kernel
theorem dL_places_247 : decode cL_places 247 = .ok (.invokevirtual 19, 3) := by decide +kernel
theorem dL_places_250 : decode cL_places 250 = .ok (.aload_n 0, 1) := by decide +kernel
theorem dL_places_251 : decode cL_places 251 = .ok (.iload_n 1, 1) := by decide +kernel
theorem dL_places_252 : decode cL_places 252 = .ok (.iconst 0, 1) := by decide +kernel
theorem dL_places_253 : decode cL_places 253 = .ok (.invokevirtual 73, 3) := by decide +kernel
theorem dL_places_256 : decode cL_places 256 = .ok (.if_icmp .ne 41, 3) := by decide +kernel
theorem dL_places_259 : decode cL_places 259 = .ok (.aload_n 0, 1) := by decide +kernel
theorem dL_places_260 : decode cL_places 260 = .ok (.iload_n 1, 1) := by decide +kernel
theorem dL_places_261 : decode cL_places 261 = .ok (.bipush 8, 2) := by decide +kernel
theorem dL_places_263 : decode cL_places 263 = .ok (.invokevirtual 19, 3) := by decide +kernel
theorem dL_places_266 : decode cL_places 266 = .ok (.aload_n 0, 1) := by decide +kernel
theorem dL_places_267 : decode cL_places 267 = .ok (.iload_n 1, 1) := by decide +kernel
theorem dL_places_268 : decode cL_places 268 = .ok (.iload_n 3, 1) := by decide +kernel
theorem dL_places_269 : decode cL_places 269 = .ok (.iconst 1, 1) := by decide +kernel
theorem dL_places_270 : decode cL_places 270 = .ok (.isub, 1) := by decide +kernel
theorem dL_places_271 : decode cL_places 271 = .ok (.invokevirtual 73, 3) := by decide +kernel
theorem dL_places_274 : decode cL_places 274 = .ok (.if_icmp .ne 23, 3) := by decide +kernel
theorem dL_places_277 : decode cL_places 277 = .ok (.aload_n 0, 1) := by decide +kernel
theorem dL_places_278 : decode cL_places 278 = .ok (.iload_n 1, 1) := by decide +kernel
theorem dL_places_279 : decode cL_places 279 = .ok (.iconst 0, 1) := by decide +kernel
theorem dL_places_280 : decode cL_places 280 = .ok (.invokevirtual 30, 3) := by decide +kernel
theorem dL_places_283 : decode cL_places 283 = .ok (.aload_n 0, 1) := by decide +kernel
theorem dL_places_284 : decode cL_places 284 = .ok (.iload_n 1, 1) := by decide +kernel
theorem dL_places_285 : decode cL_places 285 = .ok (.bipush 7, 2) := by decide +kernel
theorem dL_places_287 : decode cL_places 287 = .ok (.invokevirtual 19, 3) := by decide +kernel
theorem dL_places_290 : decode cL_places 290 = .ok (.if_icmp .ne 7, 3) := by decide +kernel
theorem dL_places_293 : decode cL_places 293 = .ok (.iconst 1, 1) := by decide +kernel
theorem dL_places_294 : decode cL_places 294 = .ok (.goto 4, 3) := by decide +kernel
theorem dL_places_297 : decode cL_places 297 = .ok (.iconst 0, 1) := by decide +kernel
theorem dL_places_298 : decode cL_places 298 = .ok (.istore 9, 2) := by decide +kernel
theorem dL_places_300 : decode cL_places 300 = .ok (.iconst 1, 1) := by decide +kernel
theorem dL_places_301 : decode cL_places 301 = .ok (.iload_n 2, 1) := by decide +kernel
theorem dL_places_302 : decode cL_places 302 = .ok (.iadd, 1) := by decide +kernel
theorem dL_places_303 : decode cL_places 303 = .ok (.istore 10, 2) := by decide +kernel
theorem dL_places_305 : decode cL_places 305 = .ok (.aload_n 0, 1) := by decide +kernel
theorem dL_places_306 : decode cL_places 306 = .ok (.iload_n 1, 1) := by decide +kernel
theorem dL_places_307 : decode cL_places 307 = .ok (.iload 10, 2) := by decide +kernel
theorem dL_places_309 : decode cL_places 309 = .ok (.invokevirtual 79, 3) := by decide +kernel
theorem dL_places_312 : decode cL_places 312 = .ok (.istore 11, 2) := by decide +kernel
theorem dL_places_314 : decode cL_places 314 = .ok (.iload 11, 2) := by decide +kernel
theorem dL_places_316 : decode cL_places 316 = .ok (.iload 10, 2) := by decide +kernel
theorem dL_places_318 : decode cL_places 318 = .ok (.iadd, 1) := by decide +kernel
theorem dL_places_319 : decode cL_places 319 = .ok (.istore 12, 2) := by decide +kernel
theorem dL_places_321 : decode cL_places 321 = .ok (.iload 11, 2) := by decide +kernel
theorem dL_places_323 : decode cL_places 323 = .ok (.ifCond .ge 25, 3) := by decide +kernel
theorem dL_places_326 : decode cL_places 326 = .ok (.iload 9, 2) := by decide +kernel
theorem dL_places_328 : decode cL_places 328 = .ok (.ifCond .eq 18, 3) := by decide +kernel
theorem dL_places_331 : decode cL_places 331 = .ok (.iload 11, 2) := by decide +kernel
theorem dL_places_333 : decode cL_places 333 = .ok (.bipush (-5), 2) := by decide +kernel
theorem dL_places_335 : decode cL_places 335 = .ok (.if_icmp .ne 11, 3) := by decide +kernel
theorem dL_places_338 : decode cL_places 338 = .ok (.iload_n 3, 1) := by decide +kernel
theorem dL_places_339 : decode cL_places 339 = .ok (.ifCond .le 7, 3) := by decide +kernel
theorem dL_places_342 : decode cL_places 342 = .ok (.iconst 1, 1) := by decide +kernel
theorem dL_places_343 : decode cL_places 343 = .ok (.goto 4, 3) := by decide +kernel
theorem dL_places_346 : decode cL_places 346 = .ok (.iconst 0, 1) := by decide +kernel
theorem dL_places_347 : decode cL_places 347 = .ok (.ireturn, 1) := by decide +kernel
theorem dL_places_348 : decode cL_places 348 = .ok (.iload 12, 2) := by decide +kernel
theorem dL_places_350 : decode cL_places 350 = .ok (.sipush 2048, 3) := by decide +kernel
theorem dL_places_353 : decode cL_places 353 = .ok (.if_icmp .ge 13, 3) := by decide +kernel
theorem dL_places_356 : decode cL_places 356 = .ok (.aload_n 0, 1) := by decide +kernel
theorem dL_places_357 : decode cL_places 357 = .ok (.iload_n 1, 1) := by decide +kernel
theorem dL_places_358 : decode cL_places 358 = .ok (.iload 12, 2) := by decide +kernel
theorem dL_places_360 : decode cL_places 360 = .ok (.invokevirtual 27, 3) := by decide +kernel
theorem dL_places_363 : decode cL_places 363 = .ok (.goto 4, 3) := by decide +kernel
theorem dL_places_366 : decode cL_places 366 = .ok (.iload_n 3, 1) := by decide +kernel
theorem dL_places_367 : decode cL_places 367 = .ok (.aload_n 0, 1) := by decide +kernel
theorem dL_places_368 : decode cL_places 368 = .ok (.iload_n 1, 1) := by decide +kernel
theorem dL_places_369 : decode cL_places 369 = .ok (.iload 11, 2) := by decide +kernel
theorem dL_places_371 : decode cL_places 371 = .ok (.invokevirtual 27, 3) := by decide +kernel
theorem dL_places_374 : decode cL_places 374 = .ok (.isub, 1) := by decide +kernel
theorem dL_places_375 : decode cL_places 375 = .ok (.istore 13, 2) := by decide +kernel
theorem dL_places_377 : decode cL_places 377 = .ok (.iload 9, 2) := by decide +kernel
theorem dL_places_379 : decode cL_places 379 = .ok (.ifCond .eq 38, 3) := by decide +kernel
theorem dL_places_382 : decode cL_places 382 = .ok (.iload 13, 2) := by decide +kernel
theorem dL_places_384 : decode cL_places 384 = .ok (.ifCond .ne 33, 3) := by decide +kernel
theorem dL_places_387 : decode cL_places 387 = .ok (.iload 12, 2) := by decide +kernel
theorem dL_places_389 : decode cL_places 389 = .ok (.sipush 2048, 3) := by decide +kernel
theorem dL_places_392 : decode cL_places 392 = .ok (.if_icmp .gt 25, 3) := by decide +kernel
theorem dL_places_395 : decode cL_places 395 = .ok (.iload 11, 2) := by decide +kernel
theorem dL_places_397 : decode cL_places 397 = .ok (.ifCond .eq 16, 3) := by decide +kernel
theorem dL_places_400 : decode cL_places 400 = .ok (.aload_n 0, 1) := by decide +kernel
theorem dL_places_401 : decode cL_places 401 = .ok (.iload_n 1, 1) := by decide +kernel
theorem dL_places_402 : decode cL_places 402 = .ok (.iload 11, 2) := by decide +kernel
theorem dL_places_404 : decode cL_places 404 = .ok (.iconst 1, 1) := by decide +kernel
theorem dL_places_405 : decode cL_places 405 = .ok (.isub, 1) := by decide +kernel
theorem dL_places_406 : decode cL_places 406 = .ok (.invokevirtual 70, 3) := by decide +kernel
theorem dL_places_409 : decode cL_places 409 = .ok (.iconst 1, 1) := by decide +kernel
theorem dL_places_410 : decode cL_places 410 = .ok (.if_icmp .ne 7, 3) := by decide +kernel
theorem dL_places_413 : decode cL_places 413 = .ok (.iconst 1, 1) := by decide +kernel
theorem dL_places_414 : decode cL_places 414 = .ok (.goto 4, 3) := by decide +kernel
theorem dL_places_417 : decode cL_places 417 = .ok (.iconst 0, 1) := by decide +kernel
theorem dL_places_418 : decode cL_places 418 = .ok (.ireturn, 1) := by decide +kernel
