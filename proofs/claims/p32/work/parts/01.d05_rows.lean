theorem goodIn_c1 {big a : List Cond} {c : Cond} (hc : GoodIn big [c]) (ha : GoodIn big a) : GoodIn big (c :: a) := fun w h => (List.mem_cons.mp h).elim (fun e => hc w (List.mem_cons.mpr (Or.inl e))) (fun h => ha w h)
set_option maxRecDepth 20000 in
theorem ggL_law_L_tale_h : GoodIn wsL_law [.code yL_tale cL_tale 5 (some .long)] := goodIn_r _ [104] (by decide +kernel) (by decide +kernel)
set_option maxRecDepth 20000 in
theorem ggL_law_L_tale_0 : GoodIn wsL_law wsL_tale_r1 := goodIn_r _ [105, 106, 107, 108, 109, 110, 111, 112, 113, 114, 115, 116, 2, 117, 118, 119, 13, 120, 121, 122, 12, 123, 56, 54] (by decide +kernel) (by decide +kernel)
set_option maxRecDepth 20000 in
theorem ggL_law_L_tale_1 : GoodIn wsL_law wsL_tale_r2 := goodIn_r _ [55, 57, 58, 59, 124, 125, 126, 127, 128, 129, 130, 131, 132, 34, 40, 133, 134, 135, 136, 137, 138, 139, 140, 141] (by decide +kernel) (by decide +kernel)
set_option maxRecDepth 20000 in
theorem ggL_law_L_tale_2 : GoodIn wsL_law wsL_tale_r3 := goodIn_r _ [142, 143, 144, 145, 146, 147, 148, 149, 150, 151, 152, 153, 154, 155, 156, 157, 158, 159, 160, 161, 162, 163, 164, 165] (by decide +kernel) (by decide +kernel)
set_option maxRecDepth 20000 in
theorem ggL_law_L_tale_3 : GoodIn wsL_law wsL_tale_r4 := goodIn_r _ [72, 73, 74, 75, 32, 37, 166, 167, 168, 36, 169, 83, 44, 170, 171, 172, 173, 174, 175, 176, 177, 178, 179, 180] (by decide +kernel) (by decide +kernel)
set_option maxRecDepth 20000 in
theorem ggL_law_L_tale_4 : GoodIn wsL_law wsL_tale_r5 := goodIn_r _ [181, 182, 183, 184, 185, 186, 187, 188, 189, 190, 191, 192, 193, 194, 195, 196, 197, 198, 199, 200, 201, 202, 203, 204] (by decide +kernel) (by decide +kernel)
set_option maxRecDepth 20000 in
theorem ggL_law_L_tale_5 : GoodIn wsL_law wsL_tale_r6 := goodIn_r _ [205, 206, 207, 208, 209, 210, 211, 212, 30] (by decide +kernel) (by decide +kernel)
set_option maxRecDepth 20000 in
theorem ggL_law_L_tale_6 : GoodIn wsL_law wsX50 := goodIn_r _ [500, 501, 502, 503, 504, 505] (by decide +kernel) (by decide +kernel)
set_option maxRecDepth 20000 in
theorem ggL_law_L_tale_7 : GoodIn wsL_law wsX10 := goodIn_r _ [506, 507, 508, 509, 510, 511, 512, 513, 514, 515, 516] (by decide +kernel) (by decide +kernel)
set_option maxRecDepth 20000 in
theorem ggL_law_L_tale_8 : GoodIn wsL_law wsX40 := goodIn_r _ [528, 529, 530, 531, 532, 533, 534, 535, 536] (by decide +kernel) (by decide +kernel)
set_option maxRecDepth 20000 in
theorem ggL_law_L_tale_9 : GoodIn wsL_law wsX30 := goodIn_r _ [523, 524, 525, 526, 527] (by decide +kernel) (by decide +kernel)
set_option maxRecDepth 20000 in
theorem ggL_law_L_tale : GoodIn wsL_law wsL_tale := goodIn_ca (goodIn_ca (goodIn_c1 ggL_law_L_tale_h (goodIn_app (goodIn_app (goodIn_app (goodIn_app (goodIn_app ggL_law_L_tale_0 (goodIn_app ggL_law_L_tale_1 (goodIn_app ggL_law_L_tale_2 (goodIn_app ggL_law_L_tale_3 (goodIn_app ggL_law_L_tale_4 ggL_law_L_tale_5))))) ggL_law_L_tale_6) ggL_law_L_tale_7) ggL_law_L_tale_8) ggL_law_L_tale_9)) (goodIn_sub (fun _ h => List.mem_append_left _ (List.mem_append_left _ (List.mem_append_right _ h))) (by decide +kernel))) (goodIn_sub (fun _ h => List.mem_append_left _ (List.mem_append_right _ h)) (by decide +kernel))
set_option maxRecDepth 20000 in
theorem gL_law_L_tale : GoodIn wsL_law (va_wsS RL 114 yL_tale wsL_tale) := goodIn_app (goodIn_of _ (by decide +kernel)) ggL_law_L_tale
set_option maxRecDepth 20000 in
theorem ggL_law_L_does_h : GoodIn wsL_law [.code yL_does cL_does 9 (some .int)] := goodIn_r _ [215] (by decide +kernel) (by decide +kernel)
set_option maxRecDepth 20000 in
theorem ggL_law_L_does_0 : GoodIn wsL_law wsL_does_r1 := goodIn_r _ [114, 115, 116, 2, 117, 118, 119, 13, 120, 121, 122, 12, 123, 56, 54, 55, 57, 58, 59, 124, 125, 126, 127, 128] (by decide +kernel) (by decide +kernel)
set_option maxRecDepth 20000 in
theorem ggL_law_L_does_1 : GoodIn wsL_law wsL_does_r2 := goodIn_r _ [129, 130, 131, 132, 34, 40, 133, 134, 135, 136, 137, 216, 217, 97, 218, 219, 170, 171, 172, 173, 174, 175, 176, 177] (by decide +kernel) (by decide +kernel)
