theorem dL_does_251 : decode cL_does 251 = .ok (.iconst 1, 1) := by decide +kernel
theorem dL_does_252 : decode cL_does 252 = .ok (.invokevirtual 12, 3) := by decide +kernel
theorem dL_does_255 : decode cL_does 255 = .ok (.iconst 3, 1) := by decide +kernel
theorem dL_does_256 : decode cL_does 256 = .ok (.if_icmp .ge 18, 3) := by decide +kernel
theorem dL_does_259 : decode cL_does 259 = .ok (.aload_n 0, 1) := by decide +kernel
theorem dL_does_260 : decode cL_does 260 = .ok (.iconst 1, 1) := by decide +kernel
theorem dL_does_261 : decode cL_does 261 = .ok (.iload_n 2, 1) := by decide +kernel
theorem dL_does_262 : decode cL_does 262 = .ok (.iconst 4, 1) := by decide +kernel
theorem dL_does_263 : decode cL_does 263 = .ok (.ishr, 1) := by decide +kernel
theorem dL_does_264 : decode cL_does 264 = .ok (.bipush 20, 2) := by decide +kernel
theorem dL_does_266 : decode cL_does 266 = .ok (.invokestatic 48, 3) := by decide +kernel
theorem dL_does_269 : decode cL_does 269 = .ok (.iadd, 1) := by decide +kernel
theorem dL_does_270 : decode cL_does 270 = .ok (.invokevirtual 77, 3) := by decide +kernel
theorem dL_does_273 : decode cL_does 273 = .ok (.ireturn, 1) := by decide +kernel
theorem dL_does_274 : decode cL_does 274 = .ok (.iload 7, 2) := by decide +kernel
theorem dL_does_276 : decode cL_does 276 = .ok (.bipush 11, 2) := by decide +kernel
theorem dL_does_278 : decode cL_does 278 = .ok (.if_icmp .ne 101, 3) := by decide +kernel
theorem dL_does_281 : decode cL_does 281 = .ok (.iload_n 2, 1) := by decide +kernel
theorem dL_does_282 : decode cL_does 282 = .ok (.iconst 4, 1) := by decide +kernel
theorem dL_does_283 : decode cL_does 283 = .ok (.ishr, 1) := by decide +kernel
theorem dL_does_284 : decode cL_does 284 = .ok (.iconst 4, 1) := by decide +kernel
theorem dL_does_285 : decode cL_does 285 = .ok (.invokestatic 48, 3) := by decide +kernel
theorem dL_does_288 : decode cL_does 288 = .ok (.istore 8, 2) := by decide +kernel
theorem dL_does_290 : decode cL_does 290 = .ok (.iload 8, 2) := by decide +kernel
theorem dL_does_292 : decode cL_does 292 = .ok (.ifCond .ne 23, 3) := by decide +kernel
theorem dL_does_295 : decode cL_does 295 = .ok (.aload_n 0, 1) := by decide +kernel
theorem dL_does_296 : decode cL_does 296 = .ok (.iconst 0, 1) := by decide +kernel
theorem dL_does_297 : decode cL_does 297 = .ok (.bipush 10, 2) := by decide +kernel
theorem dL_does_299 : decode cL_does 299 = .ok (.iload_n 2, 1) := by decide +kernel
theorem dL_does_300 : decode cL_does 300 = .ok (.bipush 6, 2) := by decide +kernel
theorem dL_does_302 : decode cL_does 302 = .ok (.ishr, 1) := by decide +kernel
theorem dL_does_303 : decode cL_does 303 = .ok (.bipush 90, 2) := by decide +kernel
theorem dL_does_305 : decode cL_does 305 = .ok (.invokestatic 48, 3) := by decide +kernel
theorem dL_does_308 : decode cL_does 308 = .ok (.iadd, 1) := by decide +kernel
theorem dL_does_309 : decode cL_does 309 = .ok (.invokevirtual 80, 3) := by decide +kernel
theorem dL_does_312 : decode cL_does 312 = .ok (.goto 66, 3) := by decide +kernel
theorem dL_does_315 : decode cL_does 315 = .ok (.iload 8, 2) := by decide +kernel
theorem dL_does_317 : decode cL_does 317 = .ok (.iconst 1, 1) := by decide +kernel
theorem dL_does_318 : decode cL_does 318 = .ok (.if_icmp .ne 20, 3) := by decide +kernel
theorem dL_does_321 : decode cL_does 321 = .ok (.aload_n 0, 1) := by decide +kernel
theorem dL_does_322 : decode cL_does 322 = .ok (.iconst 1, 1) := by decide +kernel
theorem dL_does_323 : decode cL_does 323 = .ok (.iload_n 2, 1) := by decide +kernel
theorem dL_does_324 : decode cL_does 324 = .ok (.bipush 6, 2) := by decide +kernel
theorem dL_does_326 : decode cL_does 326 = .ok (.ishr, 1) := by decide +kernel
theorem dL_does_327 : decode cL_does 327 = .ok (.bipush 51, 2) := by decide +kernel
theorem dL_does_329 : decode cL_does 329 = .ok (.invokestatic 48, 3) := by decide +kernel
theorem dL_does_332 : decode cL_does 332 = .ok (.invokevirtual 80, 3) := by decide +kernel
theorem dL_does_335 : decode cL_does 335 = .ok (.goto 43, 3) := by decide +kernel
theorem dL_does_338 : decode cL_does 338 = .ok (.iload 8, 2) := by decide +kernel
theorem dL_does_340 : decode cL_does 340 = .ok (.iconst 2, 1) := by decide +kernel
theorem dL_does_341 : decode cL_does 341 = .ok (.if_icmp .ne 22, 3) := by decide +kernel
theorem dL_does_344 : decode cL_does 344 = .ok (.aload_n 0, 1) := by decide +kernel
theorem dL_does_345 : decode cL_does 345 = .ok (.iconst 2, 1) := by decide +kernel
theorem dL_does_346 : decode cL_does 346 = .ok (.iconst 1, 1) := by decide +kernel
theorem dL_does_347 : decode cL_does 347 = .ok (.iload_n 2, 1) := by decide +kernel
theorem dL_does_348 : decode cL_does 348 = .ok (.bipush 6, 2) := by decide +kernel
theorem dL_does_350 : decode cL_does 350 = .ok (.ishr, 1) := by decide +kernel
theorem dL_does_351 : decode cL_does 351 = .ok (.bipush 9, 2) := by decide +kernel
theorem dL_does_353 : decode cL_does 353 = .ok (.invokestatic 48, 3) := by decide +kernel
theorem dL_does_356 : decode cL_does 356 = .ok (.iadd, 1) := by decide +kernel
theorem dL_does_357 : decode cL_does 357 = .ok (.invokevirtual 80, 3) := by decide +kernel
theorem dL_does_360 : decode cL_does 360 = .ok (.goto 18, 3) := by decide +kernel
theorem dL_does_363 : decode cL_does 363 = .ok (.aload_n 0, 1) := by decide +kernel
theorem dL_does_364 : decode cL_does 364 = .ok (.iconst 3, 1) := by decide +kernel
theorem dL_does_365 : decode cL_does 365 = .ok (.iconst 1, 1) := by decide +kernel
theorem dL_does_366 : decode cL_does 366 = .ok (.iload_n 2, 1) := by decide +kernel
theorem dL_does_367 : decode cL_does 367 = .ok (.bipush 6, 2) := by decide +kernel
theorem dL_does_369 : decode cL_does 369 = .ok (.ishr, 1) := by decide +kernel
theorem dL_does_370 : decode cL_does 370 = .ok (.iconst 5, 1) := by decide +kernel
theorem dL_does_371 : decode cL_does 371 = .ok (.invokestatic 48, 3) := by decide +kernel
theorem dL_does_374 : decode cL_does 374 = .ok (.iadd, 1) := by decide +kernel
theorem dL_does_375 : decode cL_does 375 = .ok (.invokevirtual 80, 3) := by decide +kernel
theorem dL_does_378 : decode cL_does 378 = .ok (.ireturn, 1) := by decide +kernel
theorem dL_does_379 : decode cL_does 379 = .ok (.aload_n 0, 1) := by decide +kernel
theorem dL_does_380 : decode cL_does 380 = .ok (.iconst 1, 1) := by decide +kernel
theorem dL_does_381 : decode cL_does 381 = .ok (.iload_n 2, 1) := by decide +kernel
theorem dL_does_382 : decode cL_does 382 = .ok (.iconst 4, 1) := by decide +kernel
theorem dL_does_383 : decode cL_does 383 = .ok (.ishr, 1) := by decide +kernel
theorem dL_does_384 : decode cL_does 384 = .ok (.bipush 9, 2) := by decide +kernel
theorem dL_does_386 : decode cL_does 386 = .ok (.invokestatic 48, 3) := by decide +kernel
theorem dL_does_389 : decode cL_does 389 = .ok (.iadd, 1) := by decide +kernel
theorem dL_does_390 : decode cL_does 390 = .ok (.invokevirtual 83, 3) := by decide +kernel
theorem dL_does_393 : decode cL_does 393 = .ok (.ireturn, 1) := by decide +kernel
set_option maxRecDepth 20000 in
theorem ggL_areSumsSo_X5_about : GoodIn wsL_areSumsSo wsX5_about := goodIn_ca (goodIn_r _ [5, 6, 7, 8, 9, 10, 11, 12, 13, 14, 15, 16, 17, 18, 19, 20, 21, 22, 23, 24, 25, 26, 27, 28, 29, 30, 31, 32, 33, 34, 35, 115, 116, 117, 118, 119, 120, 121, 122, 123, 124, 125, 126, 127, 128, 129, 130, 131, 132, 133, 134, 135, 136, 137, 138, 139, 140] (by decide +kernel) (by decide +kernel)) (goodIn_sub (fun _ h => List.mem_cons_of_mem _ (List.mem_append_left _ (List.mem_append_right _ h))) (by decide +kernel))
set_option maxRecDepth 20000 in
theorem gL_areSumsSo_X5_about : GoodIn wsL_areSumsSo (wsV RL 12 RX5 yX5_about wsX5_about) := goodIn_app (goodIn_of _ (by decide +kernel)) ggL_areSumsSo_X5_about
set_option maxRecDepth 20000 in
theorem ggL_areSumsSo_X5_person : GoodIn wsL_areSumsSo wsX5_person := goodIn_ca (goodIn_ca (goodIn_r _ [39, 6, 7, 8, 40, 41, 42, 4, 43, 44, 45, 46, 47, 48, 12, 49, 16, 50, 51, 52, 53, 54, 55, 56, 35, 57, 24, 58, 59, 25, 26, 27, 28, 29, 30, 60, 61, 62, 63, 64, 65, 66, 67, 68, 69, 70, 71, 72, 73, 74, 75, 76, 115, 116, 117, 118, 119, 120, 121, 122, 123, 124, 125, 126, 127, 128, 129, 130, 131, 132, 133, 134, 135, 136, 137, 138, 139, 140, 141, 142, 143, 144, 145] (by decide +kernel) (by decide +kernel)) (goodIn_sub (fun _ h => List.mem_cons_of_mem _ (List.mem_append_left _ (List.mem_append_right _ h))) (by decide +kernel))) (goodIn_sub (fun _ h => List.mem_cons_of_mem _ (List.mem_append_right _ h)) (by decide +kernel))
set_option maxRecDepth 20000 in
theorem gL_areSumsSo_X5_person : GoodIn wsL_areSumsSo (wsV RL 20 RX5 yX5_person wsX5_person) := goodIn_app (goodIn_of _ (by decide +kernel)) ggL_areSumsSo_X5_person
set_option maxRecDepth 20000 in
theorem ggL_areSumsSo_X5_line : GoodIn wsL_areSumsSo wsX5_line := goodIn_ca (goodIn_ca (goodIn_r _ [80, 6, 7, 8, 81, 82, 83, 4, 84, 44, 45, 85, 86, 87, 12, 88, 15, 89, 90, 91, 92, 93, 94, 95, 96, 64, 65, 66, 67, 68, 69, 97, 98, 99, 100, 56, 101, 102, 103, 73, 104, 76, 105, 106, 107, 108, 75, 25, 26, 27, 28, 29, 30, 115, 116, 117, 118, 119, 120, 121, 122, 123, 124, 125, 126, 127, 128, 129, 130, 131, 141, 142, 143, 144, 145, 132, 133, 134, 135, 136, 137, 138, 139, 140] (by decide +kernel) (by decide +kernel)) (goodIn_sub (fun _ h => List.mem_cons_of_mem _ (List.mem_append_left _ (List.mem_append_right _ h))) (by decide +kernel))) (goodIn_sub (fun _ h => List.mem_cons_of_mem _ (List.mem_append_right _ h)) (by decide +kernel))
set_option maxRecDepth 20000 in
theorem gL_areSumsSo_X5_line : GoodIn wsL_areSumsSo (wsV RL 28 RX5 yX5_line wsX5_line) := goodIn_app (goodIn_of _ (by decide +kernel)) ggL_areSumsSo_X5_line
set_option maxRecDepth 20000 in
theorem ggL_areSumsSo_X5_at : GoodIn wsL_areSumsSo wsX5_at := goodIn_ca (goodIn_ca (goodIn_r _ [112, 6, 7, 8, 81, 82, 83, 4, 84, 44, 45, 85, 86, 87, 12, 88, 15, 113, 65, 66, 67, 68, 69, 114, 102, 103, 73, 104, 76, 105, 106, 107, 108, 75, 115, 116, 117, 118, 119, 120, 121, 122, 123, 124, 125, 126, 127, 128, 129, 130, 131, 141, 142, 143, 144, 145] (by decide +kernel) (by decide +kernel)) (goodIn_sub (fun _ h => List.mem_cons_of_mem _ (List.mem_append_left _ (List.mem_append_right _ h))) (by decide +kernel))) (goodIn_sub (fun _ h => List.mem_cons_of_mem _ (List.mem_append_right _ h)) (by decide +kernel))
set_option maxRecDepth 20000 in
theorem gL_areSumsSo_X5_at : GoodIn wsL_areSumsSo (wsV RL 86 RX5 yX5_at wsX5_at) := goodIn_app (goodIn_of _ (by decide +kernel)) ggL_areSumsSo_X5_at
theorem dL_areSumsSo_0 : decode cL_areSumsSo 0 = .ok (.iconst 0, 1) := by decide +kernel
theorem dL_areSumsSo_1 : decode cL_areSumsSo 1 = .ok (.istore_n 1, 1) := by decide +kernel
theorem dL_areSumsSo_2 : decode cL_areSumsSo 2 = .ok (.iconst 0, 1) := by decide +kernel
theorem dL_areSumsSo_3 : decode cL_areSumsSo 3 = .ok (.istore_n 2, 1) := by decide +kernel
theorem dL_areSumsSo_4 : decode cL_areSumsSo 4 = .ok (.iconst 0, 1) := by decide +kernel
theorem dL_areSumsSo_5 : decode cL_areSumsSo 5 = .ok (.istore_n 3, 1) := by decide +kernel
theorem dL_areSumsSo_6 : decode cL_areSumsSo 6 = .ok (.iload_n 3, 1) := by decide +kernel
theorem dL_areSumsSo_7 : decode cL_areSumsSo 7 = .ok (.aload_n 0, 1) := by decide +kernel
theorem dL_areSumsSo_8 : decode cL_areSumsSo 8 = .ok (.iconst 2, 1) := by decide +kernel
theorem dL_areSumsSo_9 : decode cL_areSumsSo 9 = .ok (.invokevirtual 12, 3) := by decide +kernel
theorem dL_areSumsSo_12 : decode cL_areSumsSo 12 = .ok (.if_icmp .ge 19, 3) := by decide +kernel
theorem dL_areSumsSo_15 : decode cL_areSumsSo 15 = .ok (.iload_n 1, 1) := by decide +kernel
theorem dL_areSumsSo_16 : decode cL_areSumsSo 16 = .ok (.aload_n 0, 1) := by decide +kernel
theorem dL_areSumsSo_17 : decode cL_areSumsSo 17 = .ok (.iload_n 3, 1) := by decide +kernel
theorem dL_areSumsSo_18 : decode cL_areSumsSo 18 = .ok (.bipush 8, 2) := by decide +kernel
theorem dL_areSumsSo_20 : decode cL_areSumsSo 20 = .ok (.invokevirtual 20, 3) := by decide +kernel
theorem dL_areSumsSo_23 : decode cL_areSumsSo 23 = .ok (.iadd, 1) := by decide +kernel
theorem dL_areSumsSo_24 : decode cL_areSumsSo 24 = .ok (.istore_n 1, 1) := by decide +kernel
theorem dL_areSumsSo_25 : decode cL_areSumsSo 25 = .ok (.iinc 3 1, 3) := by decide +kernel
theorem dL_areSumsSo_28 : decode cL_areSumsSo 28 = .ok (.goto (-22), 3) := by decide +kernel
theorem dL_areSumsSo_31 : decode cL_areSumsSo 31 = .ok (.iconst 0, 1) := by decide +kernel
theorem dL_areSumsSo_32 : decode cL_areSumsSo 32 = .ok (.istore_n 3, 1) := by decide +kernel
theorem dL_areSumsSo_33 : decode cL_areSumsSo 33 = .ok (.iload_n 3, 1) := by decide +kernel
theorem dL_areSumsSo_34 : decode cL_areSumsSo 34 = .ok (.aload_n 0, 1) := by decide +kernel
theorem dL_areSumsSo_35 : decode cL_areSumsSo 35 = .ok (.iconst 1, 1) := by decide +kernel
theorem dL_areSumsSo_36 : decode cL_areSumsSo 36 = .ok (.invokevirtual 12, 3) := by decide +kernel
theorem dL_areSumsSo_39 : decode cL_areSumsSo 39 = .ok (.if_icmp .ge 100, 3) := by decide +kernel
theorem dL_areSumsSo_42 : decode cL_areSumsSo 42 = .ok (.iconst 0, 1) := by decide +kernel
theorem dL_areSumsSo_43 : decode cL_areSumsSo 43 = .ok (.istore 4, 2) := by decide +kernel
theorem dL_areSumsSo_45 : decode cL_areSumsSo 45 = .ok (.iconst 0, 1) := by decide +kernel
theorem dL_areSumsSo_46 : decode cL_areSumsSo 46 = .ok (.istore 5, 2) := by decide +kernel
theorem dL_areSumsSo_48 : decode cL_areSumsSo 48 = .ok (.iload 5, 2) := by decide +kernel
theorem dL_areSumsSo_50 : decode cL_areSumsSo 50 = .ok (.aload_n 0, 1) := by decide +kernel
theorem dL_areSumsSo_51 : decode cL_areSumsSo 51 = .ok (.iload_n 3, 1) := by decide +kernel
theorem dL_areSumsSo_52 : decode cL_areSumsSo 52 = .ok (.iconst 1, 1) := by decide +kernel
theorem dL_areSumsSo_53 : decode cL_areSumsSo 53 = .ok (.invokevirtual 28, 3) := by decide +kernel
theorem dL_areSumsSo_56 : decode cL_areSumsSo 56 = .ok (.if_icmp .ge 55, 3) := by decide +kernel
theorem dL_areSumsSo_59 : decode cL_areSumsSo 59 = .ok (.aload_n 0, 1) := by decide +kernel
theorem dL_areSumsSo_60 : decode cL_areSumsSo 60 = .ok (.iload_n 3, 1) := by decide +kernel
theorem dL_areSumsSo_61 : decode cL_areSumsSo 61 = .ok (.iload 5, 2) := by decide +kernel
theorem dL_areSumsSo_63 : decode cL_areSumsSo 63 = .ok (.invokevirtual 86, 3) := by decide +kernel
theorem dL_areSumsSo_66 : decode cL_areSumsSo 66 = .ok (.istore 6, 2) := by decide +kernel
theorem dL_areSumsSo_68 : decode cL_areSumsSo 68 = .ok (.iload 4, 2) := by decide +kernel
theorem dL_areSumsSo_70 : decode cL_areSumsSo 70 = .ok (.aload_n 0, 1) := by decide +kernel
theorem dL_areSumsSo_71 : decode cL_areSumsSo 71 = .ok (.iload 6, 2) := by decide +kernel
theorem dL_areSumsSo_73 : decode cL_areSumsSo 73 = .ok (.iconst 3, 1) := by decide +kernel
theorem dL_areSumsSo_74 : decode cL_areSumsSo 74 = .ok (.invokevirtual 20, 3) := by decide +kernel
theorem dL_areSumsSo_77 : decode cL_areSumsSo 77 = .ok (.iadd, 1) := by decide +kernel
theorem dL_areSumsSo_78 : decode cL_areSumsSo 78 = .ok (.istore 4, 2) := by decide +kernel
theorem dL_areSumsSo_80 : decode cL_areSumsSo 80 = .ok (.aload_n 0, 1) := by decide +kernel
theorem dL_areSumsSo_81 : decode cL_areSumsSo 81 = .ok (.iload 6, 2) := by decide +kernel
theorem dL_areSumsSo_83 : decode cL_areSumsSo 83 = .ok (.iconst 1, 1) := by decide +kernel
theorem dL_areSumsSo_84 : decode cL_areSumsSo 84 = .ok (.invokevirtual 20, 3) := by decide +kernel
theorem dL_areSumsSo_87 : decode cL_areSumsSo 87 = .ok (.iload_n 3, 1) := by decide +kernel
theorem dL_areSumsSo_88 : decode cL_areSumsSo 88 = .ok (.if_icmp .ne 15, 3) := by decide +kernel
theorem dL_areSumsSo_91 : decode cL_areSumsSo 91 = .ok (.aload_n 0, 1) := by decide +kernel
theorem dL_areSumsSo_92 : decode cL_areSumsSo 92 = .ok (.iload 6, 2) := by decide +kernel
theorem dL_areSumsSo_94 : decode cL_areSumsSo 94 = .ok (.iconst 2, 1) := by decide +kernel
theorem dL_areSumsSo_95 : decode cL_areSumsSo 95 = .ok (.invokevirtual 20, 3) := by decide +kernel
theorem dL_areSumsSo_98 : decode cL_areSumsSo 98 = .ok (.iload 5, 2) := by decide +kernel
theorem dL_areSumsSo_100 : decode cL_areSumsSo 100 = .ok (.if_icmp .eq 5, 3) := by decide +kernel
theorem dL_areSumsSo_103 : decode cL_areSumsSo 103 = .ok (.iconst 0, 1) := by decide +kernel
theorem dL_areSumsSo_104 : decode cL_areSumsSo 104 = .ok (.ireturn, 1) := by decide +kernel
theorem dL_areSumsSo_105 : decode cL_areSumsSo 105 = .ok (.iinc 5 1, 3) := by decide +kernel
theorem dL_areSumsSo_108 : decode cL_areSumsSo 108 = .ok (.goto (-60), 3) := by decide +kernel
theorem dL_areSumsSo_111 : decode cL_areSumsSo 111 = .ok (.iload_n 2, 1) := by decide +kernel
theorem dL_areSumsSo_112 : decode cL_areSumsSo 112 = .ok (.aload_n 0, 1) := by decide +kernel
theorem dL_areSumsSo_113 : decode cL_areSumsSo 113 = .ok (.iload_n 3, 1) := by decide +kernel
theorem dL_areSumsSo_114 : decode cL_areSumsSo 114 = .ok (.iconst 1, 1) := by decide +kernel
theorem dL_areSumsSo_115 : decode cL_areSumsSo 115 = .ok (.invokevirtual 28, 3) := by decide +kernel
theorem dL_areSumsSo_118 : decode cL_areSumsSo 118 = .ok (.iadd, 1) := by decide +kernel
theorem dL_areSumsSo_119 : decode cL_areSumsSo 119 = .ok (.istore_n 2, 1) := by decide +kernel
theorem dL_areSumsSo_120 : decode cL_areSumsSo 120 = .ok (.aload_n 0, 1) := by decide +kernel
theorem dL_areSumsSo_121 : decode cL_areSumsSo 121 = .ok (.iload_n 3, 1) := by decide +kernel
theorem dL_areSumsSo_122 : decode cL_areSumsSo 122 = .ok (.iconst 4, 1) := by decide +kernel
theorem dL_areSumsSo_123 : decode cL_areSumsSo 123 = .ok (.invokevirtual 28, 3) := by decide +kernel
theorem dL_areSumsSo_126 : decode cL_areSumsSo 126 = .ok (.iload 4, 2) := by decide +kernel
theorem dL_areSumsSo_128 : decode cL_areSumsSo 128 = .ok (.if_icmp .eq 5, 3) := by decide +kernel
theorem dL_areSumsSo_131 : decode cL_areSumsSo 131 = .ok (.iconst 0, 1) := by decide +kernel
theorem dL_areSumsSo_132 : decode cL_areSumsSo 132 = .ok (.ireturn, 1) := by decide +kernel
theorem dL_areSumsSo_133 : decode cL_areSumsSo 133 = .ok (.iinc 3 1, 3) := by decide +kernel
theorem dL_areSumsSo_136 : decode cL_areSumsSo 136 = .ok (.goto (-103), 3) := by decide +kernel
theorem dL_areSumsSo_139 : decode cL_areSumsSo 139 = .ok (.iload_n 1, 1) := by decide +kernel
theorem dL_areSumsSo_140 : decode cL_areSumsSo 140 = .ok (.ifCond .ne 56, 3) := by decide +kernel
theorem dL_areSumsSo_143 : decode cL_areSumsSo 143 = .ok (.iload_n 2, 1) := by decide +kernel
theorem dL_areSumsSo_144 : decode cL_areSumsSo 144 = .ok (.aload_n 0, 1) := by decide +kernel
theorem dL_areSumsSo_145 : decode cL_areSumsSo 145 = .ok (.iconst 3, 1) := by decide +kernel
theorem dL_areSumsSo_146 : decode cL_areSumsSo 146 = .ok (.invokevirtual 12, 3) := by decide +kernel
theorem dL_areSumsSo_149 : decode cL_areSumsSo 149 = .ok (.if_icmp .ne 47, 3) := by decide +kernel
theorem dL_areSumsSo_152 : decode cL_areSumsSo 152 = .ok (.aload_n 0, 1) := by decide +kernel
theorem dL_areSumsSo_153 : decode cL_areSumsSo 153 = .ok (.iconst 2, 1) := by decide +kernel
theorem dL_areSumsSo_154 : decode cL_areSumsSo 154 = .ok (.invokevirtual 12, 3) := by decide +kernel
theorem dL_areSumsSo_157 : decode cL_areSumsSo 157 = .ok (.aload_n 0, 1) := by decide +kernel
theorem dL_areSumsSo_158 : decode cL_areSumsSo 158 = .ok (.iconst 3, 1) := by decide +kernel
theorem dL_areSumsSo_159 : decode cL_areSumsSo 159 = .ok (.invokevirtual 12, 3) := by decide +kernel
theorem dL_areSumsSo_162 : decode cL_areSumsSo 162 = .ok (.aload_n 0, 1) := by decide +kernel
theorem dL_areSumsSo_163 : decode cL_areSumsSo 163 = .ok (.iconst 4, 1) := by decide +kernel
theorem dL_areSumsSo_164 : decode cL_areSumsSo 164 = .ok (.invokevirtual 12, 3) := by decide +kernel
theorem dL_areSumsSo_167 : decode cL_areSumsSo 167 = .ok (.iadd, 1) := by decide +kernel
theorem dL_areSumsSo_168 : decode cL_areSumsSo 168 = .ok (.aload_n 0, 1) := by decide +kernel
theorem dL_areSumsSo_169 : decode cL_areSumsSo 169 = .ok (.iconst 5, 1) := by decide +kernel
theorem dL_areSumsSo_170 : decode cL_areSumsSo 170 = .ok (.invokevirtual 12, 3) := by decide +kernel
theorem dL_areSumsSo_173 : decode cL_areSumsSo 173 = .ok (.iadd, 1) := by decide +kernel
theorem dL_areSumsSo_174 : decode cL_areSumsSo 174 = .ok (.if_icmp .ne 22, 3) := by decide +kernel
theorem dL_areSumsSo_177 : decode cL_areSumsSo 177 = .ok (.aload_n 0, 1) := by decide +kernel
theorem dL_areSumsSo_178 : decode cL_areSumsSo 178 = .ok (.bipush 9, 2) := by decide +kernel
theorem dL_areSumsSo_180 : decode cL_areSumsSo 180 = .ok (.invokevirtual 12, 3) := by decide +kernel
theorem dL_areSumsSo_183 : decode cL_areSumsSo 183 = .ok (.aload_n 0, 1) := by decide +kernel
theorem dL_areSumsSo_184 : decode cL_areSumsSo 184 = .ok (.bipush 8, 2) := by decide +kernel
theorem dL_areSumsSo_186 : decode cL_areSumsSo 186 = .ok (.invokevirtual 12, 3) := by decide +kernel
theorem dL_areSumsSo_189 : decode cL_areSumsSo 189 = .ok (.if_icmp .ne 7, 3) := by decide +kernel
theorem dL_areSumsSo_192 : decode cL_areSumsSo 192 = .ok (.iconst 1, 1) := by decide +kernel
theorem dL_areSumsSo_193 : decode cL_areSumsSo 193 = .ok (.goto 4, 3) := by decide +kernel
theorem dL_areSumsSo_196 : decode cL_areSumsSo 196 = .ok (.iconst 0, 1) := by decide +kernel
theorem dL_areSumsSo_197 : decode cL_areSumsSo 197 = .ok (.ireturn, 1) := by decide +kernel
set_option maxRecDepth 20000 in
theorem ggL_isForetold_X5_servedIn : GoodIn wsL_isForetold wsX5_servedIn := goodIn_ca (goodIn_ca (goodIn_r _ [5, 6, 7, 8, 9, 4, 10, 11, 12, 13, 14, 15, 16, 17, 18, 19, 20, 21, 22, 23, 24, 25, 26, 27, 28, 29, 30, 31, 32, 33, 34, 35, 36, 37, 38, 39, 40, 41, 42, 43, 44, 45, 46, 47, 48, 49, 50, 51, 52, 53, 54, 55, 56, 57, 58, 59, 60, 61, 62, 63, 64, 223, 224, 225, 226, 227, 228, 229, 230, 231, 232, 233, 234, 235, 236, 237, 238, 239, 240, 241, 242, 243, 244, 245, 246, 247, 248, 249, 250, 251, 252, 253] (by decide +kernel) (by decide +kernel)) (goodIn_sub (fun _ h => List.mem_cons_of_mem _ (List.mem_append_left _ (List.mem_append_left _ (List.mem_append_right _ h)))) (by decide +kernel))) (goodIn_sub (fun _ h => List.mem_cons_of_mem _ (List.mem_append_left _ (List.mem_append_right _ h))) (by decide +kernel))
set_option maxRecDepth 20000 in
theorem gL_isForetold_X5_servedIn : GoodIn wsL_isForetold (wsV RL 89 RX5 yX5_servedIn wsX5_servedIn) := goodIn_app (goodIn_of _ (by decide +kernel)) ggL_isForetold_X5_servedIn
set_option maxRecDepth 20000 in
theorem ggL_isForetold_X5_willPay : GoodIn wsL_isForetold wsX5_willPay := goodIn_ca (goodIn_r _ [68, 69, 70, 6, 71, 72, 73, 22, 74, 24, 75, 76, 77, 78, 79, 80, 81, 26, 27, 28, 29, 30, 20, 21, 23, 31, 32, 33, 34, 35, 36, 82, 38, 39, 40, 41, 42, 43, 44, 45, 46, 47, 48, 49, 50, 51, 52, 53, 54, 55, 56, 57, 58, 59, 60, 61, 62, 63, 64, 83, 84, 85, 86, 223, 224, 225, 226, 227, 228, 229, 230, 231, 232, 233, 234, 235, 236, 237, 238, 239, 240, 241, 242, 243, 244, 245, 246, 247, 248, 249, 250, 251, 252, 253] (by decide +kernel) (by decide +kernel)) (goodIn_sub (fun _ h => List.mem_cons_of_mem _ (List.mem_append_right _ h)) (by decide +kernel))
set_option maxRecDepth 20000 in
theorem gL_isForetold_X5_willPay : GoodIn wsL_isForetold (wsV RL 92 RX5 yX5_willPay wsX5_willPay) := goodIn_app (goodIn_of _ (by decide +kernel)) ggL_isForetold_X5_willPay
set_option maxRecDepth 20000 in
theorem ggL_isForetold_X5_about : GoodIn wsL_isForetold wsX5_about := goodIn_ca (goodIn_r _ [90, 69, 70, 6, 91, 92, 93, 22, 94, 95, 96, 24, 97, 98, 99, 100, 101, 102, 103, 29, 31, 32, 33, 34, 35, 36, 104, 105, 106, 107, 108, 223, 224, 225, 226, 227, 228, 229, 230, 231, 232, 233, 234, 235, 236, 237, 238, 239, 240, 241, 242, 243, 244, 245, 246, 247, 248] (by decide +kernel) (by decide +kernel)) (goodIn_sub (fun _ h => List.mem_cons_of_mem _ (List.mem_append_right _ h)) (by decide +kernel))
set_option maxRecDepth 20000 in
theorem gL_isForetold_X5_about : GoodIn wsL_isForetold (wsV RL 12 RX5 yX5_about wsX5_about) := goodIn_app (goodIn_of _ (by decide +kernel)) ggL_isForetold_X5_about
set_option maxRecDepth 20000 in
theorem ggL_isForetold_X5_minutes : GoodIn wsL_isForetold wsX5_minutes := goodIn_ca (goodIn_r _ [112, 69, 70, 113, 6, 114, 115, 116, 117, 118, 119, 120, 121, 122, 123, 124, 125, 126, 127, 128, 129, 130, 131, 132, 22, 133, 96, 24, 95, 97, 98, 99, 80, 134, 135, 136, 137, 46, 35, 42, 43, 44, 45, 47, 138, 139, 140, 55, 141, 63, 64, 142, 57, 58, 143, 31, 32, 33, 34, 36, 144, 145, 146, 147, 148, 149, 150, 151, 152, 153, 154, 155, 156, 157, 158, 159, 160, 161, 162, 163, 164, 165, 75, 81, 26, 27, 28, 29, 30, 20, 21, 23, 166, 167, 168, 169, 170, 171, 172, 173, 174, 175, 176, 177, 178, 179, 180, 181, 182, 183, 184, 185, 186, 187, 188, 189, 190, 191, 192, 193, 194, 195, 196, 197, 108, 198, 223, 224, 225, 226, 227, 228, 254, 255, 256, 229, 230, 231, 232, 233, 234, 235, 236, 237, 238, 239, 249, 250, 251, 252, 253, 240, 241, 242, 243, 244, 245, 246, 247, 248] (by decide +kernel) (by decide +kernel)) (goodIn_sub (fun _ h => List.mem_cons_of_mem _ (List.mem_append_right _ h)) (by decide +kernel))
set_option maxRecDepth 20000 in
theorem gL_isForetold_X5_minutes : GoodIn wsL_isForetold (wsV RL 83 RX5 yX5_minutes wsX5_minutes) := goodIn_app (goodIn_of _ (by decide +kernel)) ggL_isForetold_X5_minutes
set_option maxRecDepth 20000 in
theorem ggL_isForetold_X5_person : GoodIn wsL_isForetold wsX5_person := goodIn_ca (goodIn_ca (goodIn_r _ [202, 69, 70, 6, 13, 14, 15, 4, 16, 17, 18, 19, 20, 21, 22, 23, 24, 203, 204, 205, 206, 207, 41, 75, 108, 198, 29, 208, 209, 31, 32, 33, 34, 35, 36, 48, 49, 50, 51, 42, 43, 44, 45, 46, 47, 52, 53, 54, 55, 56, 57, 58, 223, 224, 225, 226, 227, 228, 229, 230, 231, 232, 233, 234, 235, 236, 237, 238, 239, 240, 241, 242, 243, 244, 245, 246, 247, 248, 249, 250, 251, 252, 253] (by decide +kernel) (by decide +kernel)) (goodIn_sub (fun _ h => List.mem_cons_of_mem _ (List.mem_append_right _ h)) (by decide +kernel))) (goodIn_sub (fun _ h => List.mem_cons_of_mem _ (List.mem_append_left _ (List.mem_append_right _ h))) (by decide +kernel))
set_option maxRecDepth 20000 in
theorem gL_isForetold_X5_person : GoodIn wsL_isForetold (wsV RL 20 RX5 yX5_person wsX5_person) := goodIn_app (goodIn_of _ (by decide +kernel)) ggL_isForetold_X5_person
