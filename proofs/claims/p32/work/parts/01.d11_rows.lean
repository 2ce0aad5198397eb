set_option maxRecDepth 20000 in
theorem ggL_law_L_mayExchange_2 : GoodIn wsL_law wsL_mayExchange_r3 := goodIn_r _ [147, 148, 149, 150, 151, 152, 153, 154, 155, 156, 157, 158, 159, 160, 161, 162, 163, 164, 165, 72, 73, 74, 75, 32] (by decide +kernel) (by decide +kernel)
set_option maxRecDepth 20000 in
theorem ggL_law_L_mayExchange_3 : GoodIn wsL_law wsL_mayExchange_r4 := goodIn_r _ [37, 166, 167, 168, 36, 169, 83, 44, 202, 203, 204, 205, 206, 207, 208, 209, 210, 211, 212, 30] (by decide +kernel) (by decide +kernel)
set_option maxRecDepth 20000 in
theorem ggL_law_L_mayExchange_4 : GoodIn wsL_law wsX50 := goodIn_r _ [500, 501, 502, 503, 504, 505] (by decide +kernel) (by decide +kernel)
set_option maxRecDepth 20000 in
theorem ggL_law_L_mayExchange_5 : GoodIn wsL_law wsX10 := goodIn_r _ [506, 507, 508, 509, 510, 511, 512, 513, 514, 515, 516] (by decide +kernel) (by decide +kernel)
set_option maxRecDepth 20000 in
theorem ggL_law_L_mayExchange_6 : GoodIn wsL_law wsX40 := goodIn_r _ [528, 529, 530, 531, 532, 533, 534, 535, 536] (by decide +kernel) (by decide +kernel)
set_option maxRecDepth 20000 in
theorem ggL_law_L_mayExchange_7 : GoodIn wsL_law wsX30 := goodIn_r _ [523, 524, 525, 526, 527] (by decide +kernel) (by decide +kernel)
set_option maxRecDepth 20000 in
theorem ggL_law_L_mayExchange : GoodIn wsL_law wsL_mayExchange := goodIn_ca (goodIn_ca (goodIn_c1 ggL_law_L_mayExchange_h (goodIn_app (goodIn_app (goodIn_app (goodIn_app (goodIn_app ggL_law_L_mayExchange_0 (goodIn_app ggL_law_L_mayExchange_1 (goodIn_app ggL_law_L_mayExchange_2 ggL_law_L_mayExchange_3))) ggL_law_L_mayExchange_4) ggL_law_L_mayExchange_5) ggL_law_L_mayExchange_6) ggL_law_L_mayExchange_7)) (goodIn_sub (fun _ h => List.mem_append_left _ (List.mem_append_left _ (List.mem_append_right _ h))) (by decide +kernel))) (goodIn_sub (fun _ h => List.mem_append_left _ (List.mem_append_right _ h)) (by decide +kernel))
set_option maxRecDepth 20000 in
theorem gL_law_L_mayExchange : GoodIn wsL_law (va_wsS RL 54 yL_mayExchange wsL_mayExchange) := goodIn_app (goodIn_of _ (by decide +kernel)) ggL_law_L_mayExchange
set_option maxRecDepth 20000 in
theorem ggL_law_L_isGainSo_h : GoodIn wsL_law [.code yL_isGainSo cL_isGainSo 8 (some .boolean)] := goodIn_r _ [482] (by decide +kernel) (by decide +kernel)
set_option maxRecDepth 20000 in
theorem ggL_law_L_isGainSo_0 : GoodIn wsL_law wsL_isGainSo_r1 := goodIn_r _ [483, 484, 485, 2, 486, 13, 291, 292, 293, 294, 224, 225, 142, 143, 144, 145, 146, 147, 148, 149, 150, 12, 151, 55] (by decide +kernel) (by decide +kernel)
set_option maxRecDepth 20000 in
theorem ggL_law_L_isGainSo_1 : GoodIn wsL_law wsL_isGainSo_r2 := goodIn_r _ [295, 296, 297, 298, 157, 137, 158, 299, 300, 301, 302, 128, 303, 129, 130, 131, 132, 34, 40, 162, 163, 164, 165, 72] (by decide +kernel) (by decide +kernel)
set_option maxRecDepth 20000 in
theorem ggL_law_L_isGainSo_2 : GoodIn wsL_law wsL_isGainSo_r3 := goodIn_r _ [73, 74, 75, 32, 37, 166, 167, 168, 36, 169, 83, 44, 304, 305, 306, 307, 30, 487, 488, 489, 490, 463, 464, 465] (by decide +kernel) (by decide +kernel)
set_option maxRecDepth 20000 in
theorem ggL_law_L_isGainSo_3 : GoodIn wsL_law wsL_isGainSo_r4 := goodIn_r _ [466, 80, 81, 491, 492, 493, 494, 495, 496, 497, 498, 312, 499, 455, 456, 457, 458, 350, 351, 352, 353, 354, 459, 460] (by decide +kernel) (by decide +kernel)
set_option maxRecDepth 20000 in
theorem ggL_law_L_isGainSo_4 : GoodIn wsL_law wsL_isGainSo_r5 := goodIn_r _ [461, 462, 287, 288, 289, 290, 18, 234, 235, 236, 17, 237, 238, 239, 240, 241, 242, 243, 89, 244, 245, 246, 247, 248] (by decide +kernel) (by decide +kernel)
set_option maxRecDepth 20000 in
theorem ggL_law_L_isGainSo_5 : GoodIn wsL_law wsL_isGainSo_r6 := goodIn_r _ [249, 250, 251, 54, 56, 57, 58, 59, 60, 61, 62, 63, 252, 253, 254, 255, 82, 256, 257, 258, 259, 39, 260, 261] (by decide +kernel) (by decide +kernel)
