theorem dX5_solves_224 : decode cX5_solves 224 = .ok (.iand, 1) := by decide +kernel
theorem dX5_solves_225 : decode cX5_solves 225 = .ok (.iconst 1, 1) := by decide +kernel
theorem dX5_solves_226 : decode cX5_solves 226 = .ok (.if_icmp .ne 7, 3) := by decide +kernel
theorem dX5_solves_229 : decode cX5_solves 229 = .ok (.iconst 1, 1) := by decide +kernel
theorem dX5_solves_230 : decode cX5_solves 230 = .ok (.goto 4, 3) := by decide +kernel
theorem dX5_solves_233 : decode cX5_solves 233 = .ok (.iconst 0, 1) := by decide +kernel
theorem dX5_solves_234 : decode cX5_solves 234 = .ok (.istore 5, 2) := by decide +kernel
theorem dX5_solves_236 : decode cX5_solves 236 = .ok (.iload 5, 2) := by decide +kernel
theorem dX5_solves_238 : decode cX5_solves 238 = .ok (.ifCond .eq 14, 3) := by decide +kernel
theorem dX5_solves_241 : decode cX5_solves 241 = .ok (.aload_n 0, 1) := by decide +kernel
theorem dX5_solves_242 : decode cX5_solves 242 = .ok (.iload_n 1, 1) := by decide +kernel
theorem dX5_solves_243 : decode cX5_solves 243 = .ok (.iload_n 2, 1) := by decide +kernel
theorem dX5_solves_244 : decode cX5_solves 244 = .ok (.iload 4, 2) := by decide +kernel
theorem dX5_solves_246 : decode cX5_solves 246 = .ok (.invokevirtual 119, 3) := by decide +kernel
theorem dX5_solves_249 : decode cX5_solves 249 = .ok (.goto 4, 3) := by decide +kernel
theorem dX5_solves_252 : decode cX5_solves 252 = .ok (.iconst 0, 1) := by decide +kernel
theorem dX5_solves_253 : decode cX5_solves 253 = .ok (.istore 6, 2) := by decide +kernel
theorem dX5_solves_255 : decode cX5_solves 255 = .ok (.aload_n 0, 1) := by decide +kernel
theorem dX5_solves_256 : decode cX5_solves 256 = .ok (.getfield 39, 3) := by decide +kernel
theorem dX5_solves_259 : decode cX5_solves 259 = .ok (.iload_n 3, 1) := by decide +kernel
theorem dX5_solves_260 : decode cX5_solves 260 = .ok (.iaload, 1) := by decide +kernel
theorem dX5_solves_261 : decode cX5_solves 261 = .ok (.iconst (-1), 1) := by decide +kernel
theorem dX5_solves_262 : decode cX5_solves 262 = .ok (.if_icmp .eq 37, 3) := by decide +kernel
theorem dX5_solves_265 : decode cX5_solves 265 = .ok (.aload_n 0, 1) := by decide +kernel
theorem dX5_solves_266 : decode cX5_solves 266 = .ok (.getfield 42, 3) := by decide +kernel
theorem dX5_solves_269 : decode cX5_solves 269 = .ok (.iload_n 3, 1) := by decide +kernel
theorem dX5_solves_270 : decode cX5_solves 270 = .ok (.iaload, 1) := by decide +kernel
theorem dX5_solves_271 : decode cX5_solves 271 = .ok (.ifCond .eq 17, 3) := by decide +kernel
theorem dX5_solves_274 : decode cX5_solves 274 = .ok (.iload 6, 2) := by decide +kernel
theorem dX5_solves_276 : decode cX5_solves 276 = .ok (.aload_n 0, 1) := by decide +kernel
theorem dX5_solves_277 : decode cX5_solves 277 = .ok (.getfield 36, 3) := by decide +kernel
theorem dX5_solves_280 : decode cX5_solves 280 = .ok (.iload_n 3, 1) := by decide +kernel
theorem dX5_solves_281 : decode cX5_solves 281 = .ok (.iaload, 1) := by decide +kernel
theorem dX5_solves_282 : decode cX5_solves 282 = .ok (.if_icmp .ge 21, 3) := by decide +kernel
theorem dX5_solves_285 : decode cX5_solves 285 = .ok (.goto 14, 3) := by decide +kernel
theorem dX5_solves_288 : decode cX5_solves 288 = .ok (.iload 6, 2) := by decide +kernel
theorem dX5_solves_290 : decode cX5_solves 290 = .ok (.aload_n 0, 1) := by decide +kernel
theorem dX5_solves_291 : decode cX5_solves 291 = .ok (.getfield 36, 3) := by decide +kernel
theorem dX5_solves_294 : decode cX5_solves 294 = .ok (.iload_n 3, 1) := by decide +kernel
theorem dX5_solves_295 : decode cX5_solves 295 = .ok (.iaload, 1) := by decide +kernel
theorem dX5_solves_296 : decode cX5_solves 296 = .ok (.if_icmp .le 7, 3) := by decide +kernel
theorem dX5_solves_299 : decode cX5_solves 299 = .ok (.iconst 1, 1) := by decide +kernel
theorem dX5_solves_300 : decode cX5_solves 300 = .ok (.goto 4, 3) := by decide +kernel
theorem dX5_solves_303 : decode cX5_solves 303 = .ok (.iconst 0, 1) := by decide +kernel
theorem dX5_solves_304 : decode cX5_solves 304 = .ok (.istore 7, 2) := by decide +kernel
theorem dX5_solves_306 : decode cX5_solves 306 = .ok (.aload_n 0, 1) := by decide +kernel
theorem dX5_solves_307 : decode cX5_solves 307 = .ok (.getfield 36, 3) := by decide +kernel
theorem dX5_solves_310 : decode cX5_solves 310 = .ok (.iload_n 3, 1) := by decide +kernel
theorem dX5_solves_311 : decode cX5_solves 311 = .ok (.iload 5, 2) := by decide +kernel
theorem dX5_solves_313 : decode cX5_solves 313 = .ok (.ifCond .eq 13, 3) := by decide +kernel
theorem dX5_solves_316 : decode cX5_solves 316 = .ok (.iload 7, 2) := by decide +kernel
theorem dX5_solves_318 : decode cX5_solves 318 = .ok (.ifCond .eq 8, 3) := by decide +kernel
theorem dX5_solves_321 : decode cX5_solves 321 = .ok (.iload 6, 2) := by decide +kernel
theorem dX5_solves_323 : decode cX5_solves 323 = .ok (.goto 9, 3) := by decide +kernel
theorem dX5_solves_326 : decode cX5_solves 326 = .ok (.aload_n 0, 1) := by decide +kernel
theorem dX5_solves_327 : decode cX5_solves 327 = .ok (.getfield 36, 3) := by decide +kernel
theorem dX5_solves_330 : decode cX5_solves 330 = .ok (.iload_n 3, 1) := by decide +kernel
theorem dX5_solves_331 : decode cX5_solves 331 = .ok (.iaload, 1) := by decide +kernel
theorem dX5_solves_332 : decode cX5_solves 332 = .ok (.iastore, 1) := by decide +kernel
theorem dX5_solves_333 : decode cX5_solves 333 = .ok (.aload_n 0, 1) := by decide +kernel
theorem dX5_solves_334 : decode cX5_solves 334 = .ok (.getfield 39, 3) := by decide +kernel
theorem dX5_solves_337 : decode cX5_solves 337 = .ok (.iload_n 3, 1) := by decide +kernel
theorem dX5_solves_338 : decode cX5_solves 338 = .ok (.iload 5, 2) := by decide +kernel
theorem dX5_solves_340 : decode cX5_solves 340 = .ok (.ifCond .eq 13, 3) := by decide +kernel
theorem dX5_solves_343 : decode cX5_solves 343 = .ok (.iload 7, 2) := by decide +kernel
theorem dX5_solves_345 : decode cX5_solves 345 = .ok (.ifCond .eq 8, 3) := by decide +kernel
theorem dX5_solves_348 : decode cX5_solves 348 = .ok (.iload 4, 2) := by decide +kernel
theorem dX5_solves_350 : decode cX5_solves 350 = .ok (.goto 9, 3) := by decide +kernel
theorem dX5_solves_353 : decode cX5_solves 353 = .ok (.aload_n 0, 1) := by decide +kernel
theorem dX5_solves_354 : decode cX5_solves 354 = .ok (.getfield 39, 3) := by decide +kernel
theorem dX5_solves_357 : decode cX5_solves 357 = .ok (.iload_n 3, 1) := by decide +kernel
theorem dX5_solves_358 : decode cX5_solves 358 = .ok (.iaload, 1) := by decide +kernel
theorem dX5_solves_359 : decode cX5_solves 359 = .ok (.iastore, 1) := by decide +kernel
theorem dX5_solves_360 : decode cX5_solves 360 = .ok (.iinc 4 1, 3) := by decide +kernel
theorem dX5_solves_363 : decode cX5_solves 363 = .ok (.goto (-174), 3) := by decide +kernel
theorem dX5_solves_366 : decode cX5_solves 366 = .ok (.return_, 1) := by decide +kernel
set_option maxRecDepth 20000 in
theorem ggX5_endBehind_X5_counts : GoodIn wsX5_endBehind wsX5_counts := goodIn_r _ [9, 2, 10, 19, 20, 21, 22, 23, 24, 25, 26, 27, 28, 29, 30, 31, 32, 33, 34, 35, 36, 37] (by decide +kernel) (by decide +kernel)
set_option maxRecDepth 20000 in
theorem gX5_endBehind_X5_counts : GoodIn wsX5_endBehind (wsV RX5 100 RX5 yX5_counts wsX5_counts) := goodIn_app (goodIn_of _ (by decide +kernel)) ggX5_endBehind_X5_counts
set_option maxRecDepth 20000 in
theorem ggX5_endBehind_X5_areAlike : GoodIn wsX5_endBehind wsX5_areAlike := goodIn_r _ [14, 2, 3, 19, 20, 21, 22, 23, 24, 25, 26, 27, 28, 29, 30, 31, 32, 33, 34, 35, 36, 37] (by decide +kernel) (by decide +kernel)
set_option maxRecDepth 20000 in
theorem gX5_endBehind_X5_areAlike : GoodIn wsX5_endBehind (wsV RX5 80 RX5 yX5_areAlike wsX5_areAlike) := goodIn_app (goodIn_of _ (by decide +kernel)) ggX5_endBehind_X5_areAlike
set_option maxRecDepth 20000 in
theorem ggX5_endBehind_X5_isWhole : GoodIn wsX5_endBehind wsX5_isWhole := goodIn_r _ [18, 1, 2, 5, 6, 7, 8, 9, 10, 11, 12, 13, 14, 3, 19, 20, 21, 22, 23, 24, 25, 26, 27, 28, 29, 30, 31, 32, 33, 34, 35, 36, 37] (by decide +kernel) (by decide +kernel)
set_option maxRecDepth 20000 in
theorem gX5_endBehind_X5_isWhole : GoodIn wsX5_endBehind (wsV RX5 116 RX5 yX5_isWhole wsX5_isWhole) := goodIn_app (goodIn_of _ (by decide +kernel)) ggX5_endBehind_X5_isWhole
theorem dX5_endBehind_0 : decode cX5_endBehind 0 = .ok (.iconst 0, 1) := by decide +kernel
theorem dX5_endBehind_1 : decode cX5_endBehind 1 = .ok (.istore 4, 2) := by decide +kernel
theorem dX5_endBehind_3 : decode cX5_endBehind 3 = .ok (.iconst 0, 1) := by decide +kernel
theorem dX5_endBehind_4 : decode cX5_endBehind 4 = .ok (.istore 5, 2) := by decide +kernel
theorem dX5_endBehind_6 : decode cX5_endBehind 6 = .ok (.iload 5, 2) := by decide +kernel
theorem dX5_endBehind_8 : decode cX5_endBehind 8 = .ok (.aload_n 0, 1) := by decide +kernel
theorem dX5_endBehind_9 : decode cX5_endBehind 9 = .ok (.getfield 51, 3) := by decide +kernel
theorem dX5_endBehind_12 : decode cX5_endBehind 12 = .ok (.if_icmp .ge 90, 3) := by decide +kernel
theorem dX5_endBehind_15 : decode cX5_endBehind 15 = .ok (.aload_n 0, 1) := by decide +kernel
theorem dX5_endBehind_16 : decode cX5_endBehind 16 = .ok (.iload 5, 2) := by decide +kernel
theorem dX5_endBehind_18 : decode cX5_endBehind 18 = .ok (.invokevirtual 100, 3) := by decide +kernel
theorem dX5_endBehind_21 : decode cX5_endBehind 21 = .ok (.ifCond .eq 75, 3) := by decide +kernel
theorem dX5_endBehind_24 : decode cX5_endBehind 24 = .ok (.aload_n 0, 1) := by decide +kernel
theorem dX5_endBehind_25 : decode cX5_endBehind 25 = .ok (.getfield 16, 3) := by decide +kernel
theorem dX5_endBehind_28 : decode cX5_endBehind 28 = .ok (.iload 5, 2) := by decide +kernel
theorem dX5_endBehind_30 : decode cX5_endBehind 30 = .ok (.iaload, 1) := by decide +kernel
theorem dX5_endBehind_31 : decode cX5_endBehind 31 = .ok (.iload_n 2, 1) := by decide +kernel
theorem dX5_endBehind_32 : decode cX5_endBehind 32 = .ok (.if_icmp .le 64, 3) := by decide +kernel
theorem dX5_endBehind_35 : decode cX5_endBehind 35 = .ok (.aload_n 0, 1) := by decide +kernel
theorem dX5_endBehind_36 : decode cX5_endBehind 36 = .ok (.iload 5, 2) := by decide +kernel
theorem dX5_endBehind_38 : decode cX5_endBehind 38 = .ok (.iload_n 1, 1) := by decide +kernel
theorem dX5_endBehind_39 : decode cX5_endBehind 39 = .ok (.iload_n 2, 1) := by decide +kernel
theorem dX5_endBehind_40 : decode cX5_endBehind 40 = .ok (.invokevirtual 80, 3) := by decide +kernel
theorem dX5_endBehind_43 : decode cX5_endBehind 43 = .ok (.ifCond .eq 53, 3) := by decide +kernel
theorem dX5_endBehind_46 : decode cX5_endBehind 46 = .ok (.aload_n 0, 1) := by decide +kernel
theorem dX5_endBehind_47 : decode cX5_endBehind 47 = .ok (.getfield 13, 3) := by decide +kernel
theorem dX5_endBehind_50 : decode cX5_endBehind 50 = .ok (.bipush 10, 2) := by decide +kernel
theorem dX5_endBehind_52 : decode cX5_endBehind 52 = .ok (.iload 5, 2) := by decide +kernel
theorem dX5_endBehind_54 : decode cX5_endBehind 54 = .ok (.imul, 1) := by decide +kernel
theorem dX5_endBehind_55 : decode cX5_endBehind 55 = .ok (.iload_n 2, 1) := by decide +kernel
theorem dX5_endBehind_56 : decode cX5_endBehind 56 = .ok (.iadd, 1) := by decide +kernel
theorem dX5_endBehind_57 : decode cX5_endBehind 57 = .ok (.iaload, 1) := by decide +kernel
theorem dX5_endBehind_58 : decode cX5_endBehind 58 = .ok (.iload_n 3, 1) := by decide +kernel
theorem dX5_endBehind_59 : decode cX5_endBehind 59 = .ok (.if_icmp .ne 37, 3) := by decide +kernel
theorem dX5_endBehind_62 : decode cX5_endBehind 62 = .ok (.aload_n 0, 1) := by decide +kernel
theorem dX5_endBehind_63 : decode cX5_endBehind 63 = .ok (.iload 5, 2) := by decide +kernel
theorem dX5_endBehind_65 : decode cX5_endBehind 65 = .ok (.iload_n 2, 1) := by decide +kernel
theorem dX5_endBehind_66 : decode cX5_endBehind 66 = .ok (.iconst 1, 1) := by decide +kernel
theorem dX5_endBehind_67 : decode cX5_endBehind 67 = .ok (.iadd, 1) := by decide +kernel
theorem dX5_endBehind_68 : decode cX5_endBehind 68 = .ok (.invokevirtual 116, 3) := by decide +kernel
theorem dX5_endBehind_71 : decode cX5_endBehind 71 = .ok (.ifCond .eq 7, 3) := by decide +kernel
theorem dX5_endBehind_74 : decode cX5_endBehind 74 = .ok (.iconst 1, 1) := by decide +kernel
theorem dX5_endBehind_75 : decode cX5_endBehind 75 = .ok (.goto 19, 3) := by decide +kernel
theorem dX5_endBehind_78 : decode cX5_endBehind 78 = .ok (.iconst 1, 1) := by decide +kernel
theorem dX5_endBehind_79 : decode cX5_endBehind 79 = .ok (.aload_n 0, 1) := by decide +kernel
theorem dX5_endBehind_80 : decode cX5_endBehind 80 = .ok (.getfield 36, 3) := by decide +kernel
theorem dX5_endBehind_83 : decode cX5_endBehind 83 = .ok (.bipush 11, 2) := by decide +kernel
theorem dX5_endBehind_85 : decode cX5_endBehind 85 = .ok (.iload 5, 2) := by decide +kernel
theorem dX5_endBehind_87 : decode cX5_endBehind 87 = .ok (.imul, 1) := by decide +kernel
theorem dX5_endBehind_88 : decode cX5_endBehind 88 = .ok (.iload_n 2, 1) := by decide +kernel
theorem dX5_endBehind_89 : decode cX5_endBehind 89 = .ok (.iadd, 1) := by decide +kernel
theorem dX5_endBehind_90 : decode cX5_endBehind 90 = .ok (.iconst 1, 1) := by decide +kernel
theorem dX5_endBehind_91 : decode cX5_endBehind 91 = .ok (.iadd, 1) := by decide +kernel
theorem dX5_endBehind_92 : decode cX5_endBehind 92 = .ok (.iaload, 1) := by decide +kernel
theorem dX5_endBehind_93 : decode cX5_endBehind 93 = .ok (.iadd, 1) := by decide +kernel
theorem dX5_endBehind_94 : decode cX5_endBehind 94 = .ok (.istore 4, 2) := by decide +kernel
theorem dX5_endBehind_96 : decode cX5_endBehind 96 = .ok (.iinc 5 1, 3) := by decide +kernel
theorem dX5_endBehind_99 : decode cX5_endBehind 99 = .ok (.goto (-93), 3) := by decide +kernel
theorem dX5_endBehind_102 : decode cX5_endBehind 102 = .ok (.iload 4, 2) := by decide +kernel
theorem dX5_endBehind_104 : decode cX5_endBehind 104 = .ok (.ireturn, 1) := by decide +kernel
set_option maxRecDepth 20000 in
theorem ggX5_looks_X5_counts : GoodIn wsX5_looks wsX5_counts := goodIn_r _ [10, 4, 11, 38, 39, 40, 41, 42, 43, 44, 45, 46, 47, 48, 49, 50, 51, 52, 53, 54, 55, 56] (by decide +kernel) (by decide +kernel)
set_option maxRecDepth 20000 in
theorem gX5_looks_X5_counts : GoodIn wsX5_looks (wsV RX5 100 RX5 yX5_counts wsX5_counts) := goodIn_app (goodIn_of _ (by decide +kernel)) ggX5_looks_X5_counts
set_option maxRecDepth 20000 in
theorem ggX5_looks_X5_solves : GoodIn wsX5_looks wsX5_solves := goodIn_r _ [15, 16, 17, 3, 4, 18, 19, 20, 21, 6, 7, 8, 9, 10, 11, 22, 23, 24, 25, 26, 27, 28, 29, 30, 31, 32, 33, 38, 39, 40, 41, 42, 43, 44, 45, 46, 47, 48, 49, 50, 51, 52, 53, 54, 55, 56] (by decide +kernel) (by decide +kernel)
set_option maxRecDepth 20000 in
theorem gX5_looks_X5_solves : GoodIn wsX5_looks (wsV RX5 123 RX5 yX5_solves wsX5_solves) := goodIn_app (goodIn_of _ (by decide +kernel)) ggX5_looks_X5_solves
set_option maxRecDepth 20000 in
theorem ggX5_looks_X5_begins : GoodIn wsX5_looks wsX5_begins := goodIn_r _ [37, 4, 18, 38, 39, 40, 41, 42, 43, 44, 45, 46, 47, 48, 49, 50, 51, 52, 53, 54, 55, 56] (by decide +kernel) (by decide +kernel)
set_option maxRecDepth 20000 in
theorem gX5_looks_X5_begins : GoodIn wsX5_looks (wsV RX5 57 RX5 yX5_begins wsX5_begins) := goodIn_app (goodIn_of _ (by decide +kernel)) ggX5_looks_X5_begins
theorem dX5_looks_0 : decode cX5_looks 0 = .ok (.aload_n 0, 1) := by decide +kernel
theorem dX5_looks_1 : decode cX5_looks 1 = .ok (.iconst 0, 1) := by decide +kernel
theorem dX5_looks_2 : decode cX5_looks 2 = .ok (.putfield 48, 3) := by decide +kernel
theorem dX5_looks_5 : decode cX5_looks 5 = .ok (.iconst (-1), 1) := by decide +kernel
theorem dX5_looks_6 : decode cX5_looks 6 = .ok (.istore_n 1, 1) := by decide +kernel
theorem dX5_looks_7 : decode cX5_looks 7 = .ok (.bipush 10, 2) := by decide +kernel
theorem dX5_looks_9 : decode cX5_looks 9 = .ok (.istore_n 2, 1) := by decide +kernel
theorem dX5_looks_10 : decode cX5_looks 10 = .ok (.iload_n 2, 1) := by decide +kernel
theorem dX5_looks_11 : decode cX5_looks 11 = .ok (.aload_n 0, 1) := by decide +kernel
theorem dX5_looks_12 : decode cX5_looks 12 = .ok (.getfield 94, 3) := by decide +kernel
theorem dX5_looks_15 : decode cX5_looks 15 = .ok (.if_icmp .lt 49, 3) := by decide +kernel
theorem dX5_looks_18 : decode cX5_looks 18 = .ok (.iconst 0, 1) := by decide +kernel
theorem dX5_looks_19 : decode cX5_looks 19 = .ok (.istore_n 3, 1) := by decide +kernel
theorem dX5_looks_20 : decode cX5_looks 20 = .ok (.iload_n 3, 1) := by decide +kernel
theorem dX5_looks_21 : decode cX5_looks 21 = .ok (.aload_n 0, 1) := by decide +kernel
theorem dX5_looks_22 : decode cX5_looks 22 = .ok (.getfield 51, 3) := by decide +kernel
theorem dX5_looks_25 : decode cX5_looks 25 = .ok (.if_icmp .ge 33, 3) := by decide +kernel
theorem dX5_looks_28 : decode cX5_looks 28 = .ok (.aload_n 0, 1) := by decide +kernel
theorem dX5_looks_29 : decode cX5_looks 29 = .ok (.iload_n 3, 1) := by decide +kernel
theorem dX5_looks_30 : decode cX5_looks 30 = .ok (.invokevirtual 100, 3) := by decide +kernel
theorem dX5_looks_33 : decode cX5_looks 33 = .ok (.ifCond .eq 19, 3) := by decide +kernel
theorem dX5_looks_36 : decode cX5_looks 36 = .ok (.aload_n 0, 1) := by decide +kernel
theorem dX5_looks_37 : decode cX5_looks 37 = .ok (.getfield 16, 3) := by decide +kernel
theorem dX5_looks_40 : decode cX5_looks 40 = .ok (.iload_n 3, 1) := by decide +kernel
theorem dX5_looks_41 : decode cX5_looks 41 = .ok (.iaload, 1) := by decide +kernel
theorem dX5_looks_42 : decode cX5_looks 42 = .ok (.iload_n 2, 1) := by decide +kernel
theorem dX5_looks_43 : decode cX5_looks 43 = .ok (.if_icmp .lt 9, 3) := by decide +kernel
theorem dX5_looks_46 : decode cX5_looks 46 = .ok (.aload_n 0, 1) := by decide +kernel
theorem dX5_looks_47 : decode cX5_looks 47 = .ok (.iload_n 3, 1) := by decide +kernel
theorem dX5_looks_48 : decode cX5_looks 48 = .ok (.iload_n 2, 1) := by decide +kernel
theorem dX5_looks_49 : decode cX5_looks 49 = .ok (.invokevirtual 123, 3) := by decide +kernel
theorem dX5_looks_52 : decode cX5_looks 52 = .ok (.iinc 3 1, 3) := by decide +kernel
theorem dX5_looks_55 : decode cX5_looks 55 = .ok (.goto (-35), 3) := by decide +kernel
theorem dX5_looks_58 : decode cX5_looks 58 = .ok (.iinc 2 (-1), 3) := by decide +kernel
theorem dX5_looks_61 : decode cX5_looks 61 = .ok (.goto (-51), 3) := by decide +kernel
theorem dX5_looks_64 : decode cX5_looks 64 = .ok (.iconst 0, 1) := by decide +kernel
theorem dX5_looks_65 : decode cX5_looks 65 = .ok (.istore_n 2, 1) := by decide +kernel
theorem dX5_looks_66 : decode cX5_looks 66 = .ok (.iload_n 2, 1) := by decide +kernel
theorem dX5_looks_67 : decode cX5_looks 67 = .ok (.aload_n 0, 1) := by decide +kernel
theorem dX5_looks_68 : decode cX5_looks 68 = .ok (.getfield 51, 3) := by decide +kernel
theorem dX5_looks_71 : decode cX5_looks 71 = .ok (.if_icmp .ge 47, 3) := by decide +kernel
theorem dX5_looks_74 : decode cX5_looks 74 = .ok (.aload_n 0, 1) := by decide +kernel
theorem dX5_looks_75 : decode cX5_looks 75 = .ok (.iload_n 2, 1) := by decide +kernel
theorem dX5_looks_76 : decode cX5_looks 76 = .ok (.invokevirtual 100, 3) := by decide +kernel
theorem dX5_looks_79 : decode cX5_looks 79 = .ok (.ifCond .eq 31, 3) := by decide +kernel
theorem dX5_looks_82 : decode cX5_looks 82 = .ok (.aload_n 0, 1) := by decide +kernel
theorem dX5_looks_83 : decode cX5_looks 83 = .ok (.iload_n 2, 1) := by decide +kernel
theorem dX5_looks_84 : decode cX5_looks 84 = .ok (.aload_n 0, 1) := by decide +kernel
theorem dX5_looks_85 : decode cX5_looks 85 = .ok (.getfield 29, 3) := by decide +kernel
theorem dX5_looks_88 : decode cX5_looks 88 = .ok (.aload_n 0, 1) := by decide +kernel
theorem dX5_looks_89 : decode cX5_looks 89 = .ok (.getfield 94, 3) := by decide +kernel
theorem dX5_looks_92 : decode cX5_looks 92 = .ok (.invokevirtual 57, 3) := by decide +kernel
theorem dX5_looks_95 : decode cX5_looks 95 = .ok (.ifCond .eq 15, 3) := by decide +kernel
theorem dX5_looks_98 : decode cX5_looks 98 = .ok (.bipush 11, 2) := by decide +kernel
theorem dX5_looks_100 : decode cX5_looks 100 = .ok (.iload_n 2, 1) := by decide +kernel
theorem dX5_looks_101 : decode cX5_looks 101 = .ok (.imul, 1) := by decide +kernel
theorem dX5_looks_102 : decode cX5_looks 102 = .ok (.aload_n 0, 1) := by decide +kernel
theorem dX5_looks_103 : decode cX5_looks 103 = .ok (.getfield 94, 3) := by decide +kernel
theorem dX5_looks_106 : decode cX5_looks 106 = .ok (.iadd, 1) := by decide +kernel
theorem dX5_looks_107 : decode cX5_looks 107 = .ok (.goto 4, 3) := by decide +kernel
theorem dX5_looks_110 : decode cX5_looks 110 = .ok (.iload_n 1, 1) := by decide +kernel
theorem dX5_looks_111 : decode cX5_looks 111 = .ok (.istore_n 1, 1) := by decide +kernel
theorem dX5_looks_112 : decode cX5_looks 112 = .ok (.iinc 2 1, 3) := by decide +kernel
theorem dX5_looks_115 : decode cX5_looks 115 = .ok (.goto (-49), 3) := by decide +kernel
theorem dX5_looks_118 : decode cX5_looks 118 = .ok (.iload_n 1, 1) := by decide +kernel
theorem dX5_looks_119 : decode cX5_looks 119 = .ok (.ireturn, 1) := by decide +kernel
set_option maxRecDepth 20000 in
theorem ggX5_openLetters_X5_looks : GoodIn wsX5_openLetters wsX5_looks := goodIn_r _ [6, 7, 8, 9, 10, 11, 12, 13, 14, 5, 15, 16, 17, 18, 19, 20, 1, 21, 22, 23, 24, 25, 26, 27, 28, 29, 30, 31, 32, 33, 34, 35, 36, 37, 38, 39, 40, 41, 42, 43, 44, 45, 46, 47, 48, 49, 50, 51, 52, 53, 54, 55, 56, 57, 58, 59, 60] (by decide +kernel) (by decide +kernel)
set_option maxRecDepth 20000 in
theorem gX5_openLetters_X5_looks : GoodIn wsX5_openLetters (wsV RX5 127 RX5 yX5_looks wsX5_looks) := goodIn_app (goodIn_of _ (by decide +kernel)) ggX5_openLetters_X5_looks
theorem dX5_openLetters_0 : decode cX5_openLetters 0 = .ok (.aload_n 0, 1) := by decide +kernel
theorem dX5_openLetters_1 : decode cX5_openLetters 1 = .ok (.invokevirtual 127, 3) := by decide +kernel
theorem dX5_openLetters_4 : decode cX5_openLetters 4 = .ok (.istore_n 1, 1) := by decide +kernel
theorem dX5_openLetters_5 : decode cX5_openLetters 5 = .ok (.iload_n 1, 1) := by decide +kernel
theorem dX5_openLetters_6 : decode cX5_openLetters 6 = .ok (.iconst (-1), 1) := by decide +kernel
theorem dX5_openLetters_7 : decode cX5_openLetters 7 = .ok (.if_icmp .ne 7, 3) := by decide +kernel
theorem dX5_openLetters_10 : decode cX5_openLetters 10 = .ok (.iconst 0, 1) := by decide +kernel
theorem dX5_openLetters_11 : decode cX5_openLetters 11 = .ok (.goto 9, 3) := by decide +kernel
theorem dX5_openLetters_14 : decode cX5_openLetters 14 = .ok (.aload_n 0, 1) := by decide +kernel
theorem dX5_openLetters_15 : decode cX5_openLetters 15 = .ok (.getfield 45, 3) := by decide +kernel
theorem dX5_openLetters_18 : decode cX5_openLetters 18 = .ok (.iload_n 1, 1) := by decide +kernel
theorem dX5_openLetters_19 : decode cX5_openLetters 19 = .ok (.iaload, 1) := by decide +kernel
theorem dX5_openLetters_20 : decode cX5_openLetters 20 = .ok (.ireturn, 1) := by decide +kernel
set_option maxRecDepth 20000 in
theorem ggX5_winningLetters_X5_looks : GoodIn wsX5_winningLetters wsX5_looks := goodIn_r _ [6, 7, 8, 9, 10, 11, 12, 13, 14, 5, 15, 16, 17, 18, 19, 20, 21, 1, 22, 23, 24, 25, 26, 27, 28, 29, 30, 31, 32, 33, 34, 35, 36, 37, 38, 39, 40, 41, 42, 43, 44, 45, 46, 47, 48, 49, 50, 51, 52, 53, 54, 55, 56, 57, 58, 59, 60] (by decide +kernel) (by decide +kernel)
set_option maxRecDepth 20000 in
theorem gX5_winningLetters_X5_looks : GoodIn wsX5_winningLetters (wsV RX5 127 RX5 yX5_looks wsX5_looks) := goodIn_app (goodIn_of _ (by decide +kernel)) ggX5_winningLetters_X5_looks
theorem dX5_winningLetters_0 : decode cX5_winningLetters 0 = .ok (.aload_n 0, 1) := by decide +kernel
theorem dX5_winningLetters_1 : decode cX5_winningLetters 1 = .ok (.invokevirtual 127, 3) := by decide +kernel
theorem dX5_winningLetters_4 : decode cX5_winningLetters 4 = .ok (.istore_n 1, 1) := by decide +kernel
theorem dX5_winningLetters_5 : decode cX5_winningLetters 5 = .ok (.iload_n 1, 1) := by decide +kernel
theorem dX5_winningLetters_6 : decode cX5_winningLetters 6 = .ok (.iconst (-1), 1) := by decide +kernel
theorem dX5_winningLetters_7 : decode cX5_winningLetters 7 = .ok (.if_icmp .ne 7, 3) := by decide +kernel
theorem dX5_winningLetters_10 : decode cX5_winningLetters 10 = .ok (.iconst 0, 1) := by decide +kernel
theorem dX5_winningLetters_11 : decode cX5_winningLetters 11 = .ok (.goto 9, 3) := by decide +kernel
theorem dX5_winningLetters_14 : decode cX5_winningLetters 14 = .ok (.aload_n 0, 1) := by decide +kernel
theorem dX5_winningLetters_15 : decode cX5_winningLetters 15 = .ok (.getfield 42, 3) := by decide +kernel
theorem dX5_winningLetters_18 : decode cX5_winningLetters 18 = .ok (.iload_n 1, 1) := by decide +kernel
theorem dX5_winningLetters_19 : decode cX5_winningLetters 19 = .ok (.iaload, 1) := by decide +kernel
theorem dX5_winningLetters_20 : decode cX5_winningLetters 20 = .ok (.ireturn, 1) := by decide +kernel
set_option maxRecDepth 20000 in
theorem ggX5_canWin_X5_looks : GoodIn wsX5_canWin wsX5_looks := goodIn_r _ [6, 7, 8, 9, 10, 11, 12, 13, 14, 5, 15, 16, 17, 18, 19, 20, 21, 22, 23, 1, 24, 25, 26, 27, 28, 29, 30, 31, 32, 33, 34, 35, 36, 37, 38, 39, 40, 41, 42, 43, 44, 45, 46, 47, 48, 49, 50, 51, 52, 53, 54, 55, 56, 57, 58, 59, 60] (by decide +kernel) (by decide +kernel)
set_option maxRecDepth 20000 in
theorem gX5_canWin_X5_looks : GoodIn wsX5_canWin (wsV RX5 127 RX5 yX5_looks wsX5_looks) := goodIn_app (goodIn_of _ (by decide +kernel)) ggX5_canWin_X5_looks
theorem dX5_canWin_0 : decode cX5_canWin 0 = .ok (.aload_n 0, 1) := by decide +kernel
theorem dX5_canWin_1 : decode cX5_canWin 1 = .ok (.invokevirtual 127, 3) := by decide +kernel
theorem dX5_canWin_4 : decode cX5_canWin 4 = .ok (.istore_n 1, 1) := by decide +kernel
theorem dX5_canWin_5 : decode cX5_canWin 5 = .ok (.iload_n 1, 1) := by decide +kernel
theorem dX5_canWin_6 : decode cX5_canWin 6 = .ok (.iconst (-1), 1) := by decide +kernel
theorem dX5_canWin_7 : decode cX5_canWin 7 = .ok (.if_icmp .eq 12, 3) := by decide +kernel
theorem dX5_canWin_10 : decode cX5_canWin 10 = .ok (.aload_n 0, 1) := by decide +kernel
theorem dX5_canWin_11 : decode cX5_canWin 11 = .ok (.getfield 32, 3) := by decide +kernel
theorem dX5_canWin_14 : decode cX5_canWin 14 = .ok (.iload_n 1, 1) := by decide +kernel
theorem dX5_canWin_15 : decode cX5_canWin 15 = .ok (.baload, 1) := by decide +kernel
theorem dX5_canWin_16 : decode cX5_canWin 16 = .ok (.ifCond .eq 7, 3) := by decide +kernel
theorem dX5_canWin_19 : decode cX5_canWin 19 = .ok (.iconst 1, 1) := by decide +kernel
theorem dX5_canWin_20 : decode cX5_canWin 20 = .ok (.goto 4, 3) := by decide +kernel
theorem dX5_canWin_23 : decode cX5_canWin 23 = .ok (.iconst 0, 1) := by decide +kernel
theorem dX5_canWin_24 : decode cX5_canWin 24 = .ok (.ireturn, 1) := by decide +kernel
set_option maxRecDepth 20000 in
theorem ggX5_end_X5_looks : GoodIn wsX5_end wsX5_looks := goodIn_r _ [6, 7, 8, 9, 10, 11, 12, 13, 14, 5, 15, 16, 17, 18, 19, 20, 21, 22, 23, 24, 1, 25, 26, 27, 28, 29, 30, 31, 32, 33, 34, 35, 36, 37, 38, 39, 40, 41, 42, 43, 44, 45, 46, 47, 48, 49, 50, 51, 52, 53, 54, 55, 56, 57, 58, 59, 60] (by decide +kernel) (by decide +kernel)
set_option maxRecDepth 20000 in
theorem gX5_end_X5_looks : GoodIn wsX5_end (wsV RX5 127 RX5 yX5_looks wsX5_looks) := goodIn_app (goodIn_of _ (by decide +kernel)) ggX5_end_X5_looks
theorem dX5_end_0 : decode cX5_end 0 = .ok (.aload_n 0, 1) := by decide +kernel
theorem dX5_end_1 : decode cX5_end 1 = .ok (.invokevirtual 127, 3) := by decide +kernel
theorem dX5_end_4 : decode cX5_end 4 = .ok (.istore_n 1, 1) := by decide +kernel
theorem dX5_end_5 : decode cX5_end 5 = .ok (.iload_n 1, 1) := by decide +kernel
theorem dX5_end_6 : decode cX5_end 6 = .ok (.iconst (-1), 1) := by decide +kernel
theorem dX5_end_7 : decode cX5_end 7 = .ok (.if_icmp .ne 7, 3) := by decide +kernel
theorem dX5_end_10 : decode cX5_end 10 = .ok (.iconst 0, 1) := by decide +kernel
theorem dX5_end_11 : decode cX5_end 11 = .ok (.goto 9, 3) := by decide +kernel
theorem dX5_end_14 : decode cX5_end 14 = .ok (.aload_n 0, 1) := by decide +kernel
theorem dX5_end_15 : decode cX5_end 15 = .ok (.getfield 36, 3) := by decide +kernel
theorem dX5_end_18 : decode cX5_end 18 = .ok (.iload_n 1, 1) := by decide +kernel
theorem dX5_end_19 : decode cX5_end 19 = .ok (.iaload, 1) := by decide +kernel
theorem dX5_end_20 : decode cX5_end 20 = .ok (.ireturn, 1) := by decide +kernel
set_option maxRecDepth 20000 in
theorem ggX5_bestLetter_X5_looks : GoodIn wsX5_bestLetter wsX5_looks := goodIn_r _ [6, 7, 8, 9, 10, 11, 12, 13, 14, 5, 15, 16, 17, 18, 19, 20, 21, 22, 23, 24, 25, 1, 26, 27, 28, 29, 30, 31, 32, 33, 34, 35, 36, 37, 38, 39, 40, 41, 42, 43, 44, 45, 46, 47, 48, 49, 50, 51, 52, 53, 54, 55, 56, 57, 58, 59, 60] (by decide +kernel) (by decide +kernel)
set_option maxRecDepth 20000 in
theorem gX5_bestLetter_X5_looks : GoodIn wsX5_bestLetter (wsV RX5 127 RX5 yX5_looks wsX5_looks) := goodIn_app (goodIn_of _ (by decide +kernel)) ggX5_bestLetter_X5_looks
theorem dX5_bestLetter_0 : decode cX5_bestLetter 0 = .ok (.aload_n 0, 1) := by decide +kernel
theorem dX5_bestLetter_1 : decode cX5_bestLetter 1 = .ok (.invokevirtual 127, 3) := by decide +kernel
theorem dX5_bestLetter_4 : decode cX5_bestLetter 4 = .ok (.istore_n 1, 1) := by decide +kernel
theorem dX5_bestLetter_5 : decode cX5_bestLetter 5 = .ok (.iload_n 1, 1) := by decide +kernel
theorem dX5_bestLetter_6 : decode cX5_bestLetter 6 = .ok (.iconst (-1), 1) := by decide +kernel
theorem dX5_bestLetter_7 : decode cX5_bestLetter 7 = .ok (.if_icmp .ne 7, 3) := by decide +kernel
theorem dX5_bestLetter_10 : decode cX5_bestLetter 10 = .ok (.iconst (-1), 1) := by decide +kernel
theorem dX5_bestLetter_11 : decode cX5_bestLetter 11 = .ok (.goto 9, 3) := by decide +kernel
theorem dX5_bestLetter_14 : decode cX5_bestLetter 14 = .ok (.aload_n 0, 1) := by decide +kernel
theorem dX5_bestLetter_15 : decode cX5_bestLetter 15 = .ok (.getfield 39, 3) := by decide +kernel
theorem dX5_bestLetter_18 : decode cX5_bestLetter 18 = .ok (.iload_n 1, 1) := by decide +kernel
theorem dX5_bestLetter_19 : decode cX5_bestLetter 19 = .ok (.iaload, 1) := by decide +kernel
theorem dX5_bestLetter_20 : decode cX5_bestLetter 20 = .ok (.ireturn, 1) := by decide +kernel
set_option maxRecDepth 20000 in
theorem ggX5_isWay_X5_counts : GoodIn wsX5_isWay wsX5_counts := goodIn_r _ [8, 1, 9, 24, 25, 26, 27, 28, 29, 30, 31, 32, 33, 34, 35, 36, 37, 38, 39, 40, 41, 42] (by decide +kernel) (by decide +kernel)
set_option maxRecDepth 20000 in
theorem gX5_isWay_X5_counts : GoodIn wsX5_isWay (wsV RX5 100 RX5 yX5_counts wsX5_counts) := goodIn_app (goodIn_of _ (by decide +kernel)) ggX5_isWay_X5_counts
set_option maxRecDepth 20000 in
theorem ggX5_isWay_X5_begins : GoodIn wsX5_isWay wsX5_begins := goodIn_r _ [13, 1, 14, 24, 25, 26, 27, 28, 29, 30, 31, 32, 33, 34, 35, 36, 37, 38, 39, 40, 41, 42] (by decide +kernel) (by decide +kernel)
set_option maxRecDepth 20000 in
theorem gX5_isWay_X5_begins : GoodIn wsX5_isWay (wsV RX5 57 RX5 yX5_begins wsX5_begins) := goodIn_app (goodIn_of _ (by decide +kernel)) ggX5_isWay_X5_begins
set_option maxRecDepth 20000 in
theorem ggX5_isWay_X5_isWhole : GoodIn wsX5_isWay wsX5_isWhole := goodIn_r _ [18, 19, 1, 4, 5, 6, 7, 8, 9, 20, 21, 22, 23, 14, 24, 25, 26, 27, 28, 29, 30, 31, 32, 33, 34, 35, 36, 37, 38, 39, 40, 41, 42] (by decide +kernel) (by decide +kernel)
set_option maxRecDepth 20000 in
theorem gX5_isWay_X5_isWhole : GoodIn wsX5_isWay (wsV RX5 116 RX5 yX5_isWhole wsX5_isWhole) := goodIn_app (goodIn_of _ (by decide +kernel)) ggX5_isWay_X5_isWhole
theorem dX5_isWay_0 : decode cX5_isWay 0 = .ok (.aload_n 0, 1) := by decide +kernel
theorem dX5_isWay_1 : decode cX5_isWay 1 = .ok (.iload_n 1, 1) := by decide +kernel
theorem dX5_isWay_2 : decode cX5_isWay 2 = .ok (.invokevirtual 100, 3) := by decide +kernel
theorem dX5_isWay_5 : decode cX5_isWay 5 = .ok (.ifCond .eq 36, 3) := by decide +kernel
theorem dX5_isWay_8 : decode cX5_isWay 8 = .ok (.aload_n 0, 1) := by decide +kernel
theorem dX5_isWay_9 : decode cX5_isWay 9 = .ok (.getfield 16, 3) := by decide +kernel
theorem dX5_isWay_12 : decode cX5_isWay 12 = .ok (.iload_n 1, 1) := by decide +kernel
theorem dX5_isWay_13 : decode cX5_isWay 13 = .ok (.iaload, 1) := by decide +kernel
theorem dX5_isWay_14 : decode cX5_isWay 14 = .ok (.aload_n 0, 1) := by decide +kernel
theorem dX5_isWay_15 : decode cX5_isWay 15 = .ok (.getfield 94, 3) := by decide +kernel
theorem dX5_isWay_18 : decode cX5_isWay 18 = .ok (.if_icmp .le 23, 3) := by decide +kernel
theorem dX5_isWay_21 : decode cX5_isWay 21 = .ok (.aload_n 0, 1) := by decide +kernel
theorem dX5_isWay_22 : decode cX5_isWay 22 = .ok (.iload_n 1, 1) := by decide +kernel
theorem dX5_isWay_23 : decode cX5_isWay 23 = .ok (.aload_n 0, 1) := by decide +kernel
theorem dX5_isWay_24 : decode cX5_isWay 24 = .ok (.getfield 29, 3) := by decide +kernel
theorem dX5_isWay_27 : decode cX5_isWay 27 = .ok (.aload_n 0, 1) := by decide +kernel
theorem dX5_isWay_28 : decode cX5_isWay 28 = .ok (.getfield 94, 3) := by decide +kernel
theorem dX5_isWay_31 : decode cX5_isWay 31 = .ok (.invokevirtual 57, 3) := by decide +kernel
theorem dX5_isWay_34 : decode cX5_isWay 34 = .ok (.ifCond .eq 7, 3) := by decide +kernel
theorem dX5_isWay_37 : decode cX5_isWay 37 = .ok (.iconst 1, 1) := by decide +kernel
theorem dX5_isWay_38 : decode cX5_isWay 38 = .ok (.goto 4, 3) := by decide +kernel
theorem dX5_isWay_41 : decode cX5_isWay 41 = .ok (.iconst 0, 1) := by decide +kernel
theorem dX5_isWay_42 : decode cX5_isWay 42 = .ok (.istore_n 2, 1) := by decide +kernel
theorem dX5_isWay_43 : decode cX5_isWay 43 = .ok (.aload_n 0, 1) := by decide +kernel
theorem dX5_isWay_44 : decode cX5_isWay 44 = .ok (.getfield 94, 3) := by decide +kernel
theorem dX5_isWay_47 : decode cX5_isWay 47 = .ok (.iconst 1, 1) := by decide +kernel
theorem dX5_isWay_48 : decode cX5_isWay 48 = .ok (.iadd, 1) := by decide +kernel
theorem dX5_isWay_49 : decode cX5_isWay 49 = .ok (.istore_n 3, 1) := by decide +kernel
theorem dX5_isWay_50 : decode cX5_isWay 50 = .ok (.iload_n 3, 1) := by decide +kernel
theorem dX5_isWay_51 : decode cX5_isWay 51 = .ok (.aload_n 0, 1) := by decide +kernel
theorem dX5_isWay_52 : decode cX5_isWay 52 = .ok (.getfield 16, 3) := by decide +kernel
theorem dX5_isWay_55 : decode cX5_isWay 55 = .ok (.iload_n 1, 1) := by decide +kernel
theorem dX5_isWay_56 : decode cX5_isWay 56 = .ok (.iaload, 1) := by decide +kernel
theorem dX5_isWay_57 : decode cX5_isWay 57 = .ok (.if_icmp .ge 28, 3) := by decide +kernel
theorem dX5_isWay_60 : decode cX5_isWay 60 = .ok (.iload_n 2, 1) := by decide +kernel
theorem dX5_isWay_61 : decode cX5_isWay 61 = .ok (.ifCond .eq 24, 3) := by decide +kernel
theorem dX5_isWay_64 : decode cX5_isWay 64 = .ok (.aload_n 0, 1) := by decide +kernel
theorem dX5_isWay_65 : decode cX5_isWay 65 = .ok (.iload_n 1, 1) := by decide +kernel
theorem dX5_isWay_66 : decode cX5_isWay 66 = .ok (.iload_n 3, 1) := by decide +kernel
theorem dX5_isWay_67 : decode cX5_isWay 67 = .ok (.invokevirtual 116, 3) := by decide +kernel
theorem dX5_isWay_70 : decode cX5_isWay 70 = .ok (.ifCond .ne 7, 3) := by decide +kernel
theorem dX5_isWay_73 : decode cX5_isWay 73 = .ok (.iconst 1, 1) := by decide +kernel
theorem dX5_isWay_74 : decode cX5_isWay 74 = .ok (.goto 4, 3) := by decide +kernel
theorem dX5_isWay_77 : decode cX5_isWay 77 = .ok (.iconst 0, 1) := by decide +kernel
theorem dX5_isWay_78 : decode cX5_isWay 78 = .ok (.istore_n 2, 1) := by decide +kernel
theorem dX5_isWay_79 : decode cX5_isWay 79 = .ok (.iinc 3 1, 3) := by decide +kernel
theorem dX5_isWay_82 : decode cX5_isWay 82 = .ok (.goto (-32), 3) := by decide +kernel
theorem dX5_isWay_85 : decode cX5_isWay 85 = .ok (.iload_n 2, 1) := by decide +kernel
theorem dX5_isWay_86 : decode cX5_isWay 86 = .ok (.ireturn, 1) := by decide +kernel
set_option maxRecDepth 20000 in
theorem ggX5_waysToPlay_X5_isWay : GoodIn wsX5_waysToPlay wsX5_isWay := goodIn_r _ [6, 7, 8, 9, 10, 11, 12, 5, 13, 14, 15, 16, 17, 18, 19, 20, 21, 22, 23, 1, 24, 25, 26, 27, 33, 34, 35, 36, 37, 38, 39, 40, 41, 42, 43, 44, 45, 46, 47, 48, 49, 50, 51] (by decide +kernel) (by decide +kernel)
set_option maxRecDepth 20000 in
theorem gX5_waysToPlay_X5_isWay : GoodIn wsX5_waysToPlay (wsV RX5 130 RX5 yX5_isWay wsX5_isWay) := goodIn_app (goodIn_of _ (by decide +kernel)) ggX5_waysToPlay_X5_isWay
set_option maxRecDepth 20000 in
theorem ggX5_waysToPlay_X5_told : GoodIn wsX5_waysToPlay wsX5_told := goodIn_r _ [31, 32, 33, 34, 35, 36, 37, 38, 39, 40, 41, 42, 43, 44, 45, 46, 47, 48, 49, 50, 51] (by decide +kernel) (by decide +kernel)
set_option maxRecDepth 20000 in
theorem gX5_waysToPlay_X5_told : GoodIn wsX5_waysToPlay (wsV RX5 69 RX5 yX5_told wsX5_told) := goodIn_app (goodIn_of _ (by decide +kernel)) ggX5_waysToPlay_X5_told
theorem dX5_waysToPlay_0 : decode cX5_waysToPlay 0 = .ok (.iconst 0, 1) := by decide +kernel
theorem dX5_waysToPlay_1 : decode cX5_waysToPlay 1 = .ok (.istore_n 1, 1) := by decide +kernel
theorem dX5_waysToPlay_2 : decode cX5_waysToPlay 2 = .ok (.iconst 0, 1) := by decide +kernel
theorem dX5_waysToPlay_3 : decode cX5_waysToPlay 3 = .ok (.istore_n 2, 1) := by decide +kernel
theorem dX5_waysToPlay_4 : decode cX5_waysToPlay 4 = .ok (.iload_n 2, 1) := by decide +kernel
theorem dX5_waysToPlay_5 : decode cX5_waysToPlay 5 = .ok (.aload_n 0, 1) := by decide +kernel
theorem dX5_waysToPlay_6 : decode cX5_waysToPlay 6 = .ok (.getfield 51, 3) := by decide +kernel
theorem dX5_waysToPlay_9 : decode cX5_waysToPlay 9 = .ok (.if_icmp .ge 25, 3) := by decide +kernel
theorem dX5_waysToPlay_12 : decode cX5_waysToPlay 12 = .ok (.iload_n 1, 1) := by decide +kernel
theorem dX5_waysToPlay_13 : decode cX5_waysToPlay 13 = .ok (.aload_n 0, 1) := by decide +kernel
theorem dX5_waysToPlay_14 : decode cX5_waysToPlay 14 = .ok (.iload_n 2, 1) := by decide +kernel
theorem dX5_waysToPlay_15 : decode cX5_waysToPlay 15 = .ok (.invokevirtual 130, 3) := by decide +kernel
theorem dX5_waysToPlay_18 : decode cX5_waysToPlay 18 = .ok (.ifCond .eq 7, 3) := by decide +kernel
theorem dX5_waysToPlay_21 : decode cX5_waysToPlay 21 = .ok (.iconst 1, 1) := by decide +kernel
theorem dX5_waysToPlay_22 : decode cX5_waysToPlay 22 = .ok (.goto 4, 3) := by decide +kernel
theorem dX5_waysToPlay_25 : decode cX5_waysToPlay 25 = .ok (.iconst 0, 1) := by decide +kernel
theorem dX5_waysToPlay_26 : decode cX5_waysToPlay 26 = .ok (.iadd, 1) := by decide +kernel
theorem dX5_waysToPlay_27 : decode cX5_waysToPlay 27 = .ok (.istore_n 1, 1) := by decide +kernel
theorem dX5_waysToPlay_28 : decode cX5_waysToPlay 28 = .ok (.iinc 2 1, 3) := by decide +kernel
theorem dX5_waysToPlay_31 : decode cX5_waysToPlay 31 = .ok (.goto (-27), 3) := by decide +kernel
theorem dX5_waysToPlay_34 : decode cX5_waysToPlay 34 = .ok (.aload_n 0, 1) := by decide +kernel
theorem dX5_waysToPlay_35 : decode cX5_waysToPlay 35 = .ok (.iload_n 1, 1) := by decide +kernel
theorem dX5_waysToPlay_36 : decode cX5_waysToPlay 36 = .ok (.invokevirtual 69, 3) := by decide +kernel
theorem dX5_waysToPlay_39 : decode cX5_waysToPlay 39 = .ok (.ireturn, 1) := by decide +kernel
set_option maxRecDepth 20000 in
theorem ggX5_waysToWin_X5_isWay : GoodIn wsX5_waysToWin wsX5_isWay := goodIn_r _ [8, 2, 3, 9, 10, 11, 12, 7, 13, 14, 15, 16, 17, 18, 19, 20, 21, 22, 23, 1, 24, 25, 26, 27, 33, 34, 35, 36, 37, 38, 39, 40, 41, 42, 43, 44, 45, 46, 47, 48, 49, 50, 51] (by decide +kernel) (by decide +kernel)
set_option maxRecDepth 20000 in
theorem gX5_waysToWin_X5_isWay : GoodIn wsX5_waysToWin (wsV RX5 130 RX5 yX5_isWay wsX5_isWay) := goodIn_app (goodIn_of _ (by decide +kernel)) ggX5_waysToWin_X5_isWay
set_option maxRecDepth 20000 in
theorem ggX5_waysToWin_X5_told : GoodIn wsX5_waysToWin wsX5_told := goodIn_r _ [31, 32, 33, 34, 35, 36, 37, 38, 39, 40, 41, 42, 43, 44, 45, 46, 47, 48, 49, 50, 51] (by decide +kernel) (by decide +kernel)
set_option maxRecDepth 20000 in
theorem gX5_waysToWin_X5_told : GoodIn wsX5_waysToWin (wsV RX5 69 RX5 yX5_told wsX5_told) := goodIn_app (goodIn_of _ (by decide +kernel)) ggX5_waysToWin_X5_told
theorem dX5_waysToWin_0 : decode cX5_waysToWin 0 = .ok (.iconst 0, 1) := by decide +kernel
theorem dX5_waysToWin_1 : decode cX5_waysToWin 1 = .ok (.istore_n 1, 1) := by decide +kernel
theorem dX5_waysToWin_2 : decode cX5_waysToWin 2 = .ok (.iconst 0, 1) := by decide +kernel
theorem dX5_waysToWin_3 : decode cX5_waysToWin 3 = .ok (.istore_n 2, 1) := by decide +kernel
theorem dX5_waysToWin_4 : decode cX5_waysToWin 4 = .ok (.iload_n 2, 1) := by decide +kernel
theorem dX5_waysToWin_5 : decode cX5_waysToWin 5 = .ok (.aload_n 0, 1) := by decide +kernel
theorem dX5_waysToWin_6 : decode cX5_waysToWin 6 = .ok (.getfield 51, 3) := by decide +kernel
theorem dX5_waysToWin_9 : decode cX5_waysToWin 9 = .ok (.if_icmp .ge 41, 3) := by decide +kernel
theorem dX5_waysToWin_12 : decode cX5_waysToWin 12 = .ok (.iload_n 1, 1) := by decide +kernel
theorem dX5_waysToWin_13 : decode cX5_waysToWin 13 = .ok (.aload_n 0, 1) := by decide +kernel
theorem dX5_waysToWin_14 : decode cX5_waysToWin 14 = .ok (.iload_n 2, 1) := by decide +kernel
theorem dX5_waysToWin_15 : decode cX5_waysToWin 15 = .ok (.invokevirtual 130, 3) := by decide +kernel
theorem dX5_waysToWin_18 : decode cX5_waysToWin 18 = .ok (.ifCond .eq 23, 3) := by decide +kernel
theorem dX5_waysToWin_21 : decode cX5_waysToWin 21 = .ok (.aload_n 0, 1) := by decide +kernel
theorem dX5_waysToWin_22 : decode cX5_waysToWin 22 = .ok (.getfield 16, 3) := by decide +kernel
theorem dX5_waysToWin_25 : decode cX5_waysToWin 25 = .ok (.iload_n 2, 1) := by decide +kernel
theorem dX5_waysToWin_26 : decode cX5_waysToWin 26 = .ok (.iaload, 1) := by decide +kernel
theorem dX5_waysToWin_27 : decode cX5_waysToWin 27 = .ok (.aload_n 0, 1) := by decide +kernel
theorem dX5_waysToWin_28 : decode cX5_waysToWin 28 = .ok (.getfield 94, 3) := by decide +kernel
theorem dX5_waysToWin_31 : decode cX5_waysToWin 31 = .ok (.isub, 1) := by decide +kernel
theorem dX5_waysToWin_32 : decode cX5_waysToWin 32 = .ok (.iconst 2, 1) := by decide +kernel
theorem dX5_waysToWin_33 : decode cX5_waysToWin 33 = .ok (.irem, 1) := by decide +kernel
theorem dX5_waysToWin_34 : decode cX5_waysToWin 34 = .ok (.ifCond .ne 7, 3) := by decide +kernel
theorem dX5_waysToWin_37 : decode cX5_waysToWin 37 = .ok (.iconst 1, 1) := by decide +kernel
theorem dX5_waysToWin_38 : decode cX5_waysToWin 38 = .ok (.goto 4, 3) := by decide +kernel
theorem dX5_waysToWin_41 : decode cX5_waysToWin 41 = .ok (.iconst 0, 1) := by decide +kernel
theorem dX5_waysToWin_42 : decode cX5_waysToWin 42 = .ok (.iadd, 1) := by decide +kernel
theorem dX5_waysToWin_43 : decode cX5_waysToWin 43 = .ok (.istore_n 1, 1) := by decide +kernel
theorem dX5_waysToWin_44 : decode cX5_waysToWin 44 = .ok (.iinc 2 1, 3) := by decide +kernel
theorem dX5_waysToWin_47 : decode cX5_waysToWin 47 = .ok (.goto (-43), 3) := by decide +kernel
theorem dX5_waysToWin_50 : decode cX5_waysToWin 50 = .ok (.aload_n 0, 1) := by decide +kernel
theorem dX5_waysToWin_51 : decode cX5_waysToWin 51 = .ok (.iload_n 1, 1) := by decide +kernel
theorem dX5_waysToWin_52 : decode cX5_waysToWin 52 = .ok (.invokevirtual 69, 3) := by decide +kernel
theorem dX5_waysToWin_55 : decode cX5_waysToWin 55 = .ok (.ireturn, 1) := by decide +kernel
