set_option maxRecDepth 20000 in
theorem ggL_law_X5_undo_6 : GoodIn wsL_law wsX10 := goodIn_r _ [506, 507, 508, 509, 510, 511, 512, 513, 514, 515, 516] (by decide +kernel) (by decide +kernel)
set_option maxRecDepth 20000 in
theorem ggL_law_X5_undo_7 : GoodIn wsL_law wsX30 := goodIn_r _ [523, 524, 525, 526, 527] (by decide +kernel) (by decide +kernel)
set_option maxRecDepth 20000 in
theorem ggL_law_X5_undo_8 : GoodIn wsL_law wsX40 := goodIn_r _ [528, 529, 530, 531, 532, 533, 534, 535, 536] (by decide +kernel) (by decide +kernel)
set_option maxRecDepth 20000 in
theorem ggL_law_X5_undo : GoodIn wsL_law wsX5_undo := goodIn_ca (goodIn_c1 ggL_law_X5_undo_h (goodIn_app (goodIn_app (goodIn_app (goodIn_app (goodIn_app (goodIn_app ggL_law_X5_undo_0 (goodIn_app ggL_law_X5_undo_1 (goodIn_app ggL_law_X5_undo_2 ggL_law_X5_undo_3))) ggL_law_X5_undo_4) ggL_law_X5_undo_5) ggL_law_X5_undo_6) ggL_law_X5_undo_7) ggL_law_X5_undo_8)) (goodIn_sub (fun _ h => List.mem_append_right _ h) (by decide +kernel))
set_option maxRecDepth 20000 in
theorem gL_law_X5_undo : GoodIn wsL_law (wsV RL 95 RX5 yX5_undo wsX5_undo) := goodIn_app (goodIn_of _ (by decide +kernel)) ggL_law_X5_undo
set_option maxRecDepth 20000 in
theorem ggL_law_X5_about : GoodIn wsL_law wsX5_about := goodIn_ca (goodIn_r _ [117, 118, 119, 13, 120, 121, 122, 12, 123, 56, 54, 55, 57, 58, 59, 124, 125, 126, 127, 128, 129, 130, 131, 132, 34, 40, 133, 134, 135, 136, 137, 500, 501, 502, 503, 504, 505, 506, 507, 508, 509, 510, 511, 512, 513, 514, 515, 516, 528, 529, 530, 531, 532, 533, 534, 535, 536] (by decide +kernel) (by decide +kernel)) (goodIn_sub (fun _ h => List.mem_append_left _ (List.mem_append_left _ (List.mem_append_right _ h))) (by decide +kernel))
set_option maxRecDepth 20000 in
theorem gL_law_X5_about : GoodIn wsL_law (wsV RL 12 RX5 yX5_about wsX5_about) := goodIn_app (goodIn_of _ (by decide +kernel)) ggL_law_X5_about
set_option maxRecDepth 20000 in
theorem ggL_law_L_areSumsSo_h : GoodIn wsL_law [.code yL_areSumsSo cL_areSumsSo 7 (some .boolean)] := goodIn_r _ [445] (by decide +kernel) (by decide +kernel)
set_option maxRecDepth 20000 in
theorem ggL_law_L_areSumsSo_0 : GoodIn wsL_law wsL_areSumsSo_r1 := goodIn_r _ [114, 115, 116, 2, 117, 118, 119, 13, 120, 121, 122, 12, 123, 56, 54, 55, 57, 58, 59, 124, 125, 126, 127, 128] (by decide +kernel) (by decide +kernel)
set_option maxRecDepth 20000 in
theorem ggL_law_L_areSumsSo_1 : GoodIn wsL_law wsL_areSumsSo_r2 := goodIn_r _ [129, 130, 131, 132, 34, 40, 133, 134, 135, 136, 137, 138, 139, 140, 141, 142, 143, 144, 145, 146, 147, 148, 149, 150] (by decide +kernel) (by decide +kernel)
set_option maxRecDepth 20000 in
theorem ggL_law_L_areSumsSo_2 : GoodIn wsL_law wsL_areSumsSo_r3 := goodIn_r _ [151, 152, 153, 154, 155, 156, 157, 158, 159, 160, 161, 162, 163, 164, 165, 72, 73, 74, 75, 32, 37, 166, 167, 168] (by decide +kernel) (by decide +kernel)
set_option maxRecDepth 20000 in
theorem ggL_law_L_areSumsSo_3 : GoodIn wsL_law wsL_areSumsSo_r4 := goodIn_r _ [36, 169, 83, 44, 170, 171, 172, 173, 174, 175, 176, 177, 178, 179, 180, 181, 182, 183, 184, 185, 186, 187, 188, 189] (by decide +kernel) (by decide +kernel)
set_option maxRecDepth 20000 in
theorem ggL_law_L_areSumsSo_4 : GoodIn wsL_law wsL_areSumsSo_r5 := goodIn_r _ [190, 191, 192, 193, 194, 195, 196, 197, 198, 199, 200, 201, 446, 447, 448, 449, 450, 451] (by decide +kernel) (by decide +kernel)
set_option maxRecDepth 20000 in
theorem ggL_law_L_areSumsSo_5 : GoodIn wsL_law wsX50 := goodIn_r _ [500, 501, 502, 503, 504, 505] (by decide +kernel) (by decide +kernel)
set_option maxRecDepth 20000 in
theorem ggL_law_L_areSumsSo_6 : GoodIn wsL_law wsX10 := goodIn_r _ [506, 507, 508, 509, 510, 511, 512, 513, 514, 515, 516] (by decide +kernel) (by decide +kernel)
set_option maxRecDepth 20000 in
theorem ggL_law_L_areSumsSo_7 : GoodIn wsL_law wsX40 := goodIn_r _ [528, 529, 530, 531, 532, 533, 534, 535, 536] (by decide +kernel) (by decide +kernel)
