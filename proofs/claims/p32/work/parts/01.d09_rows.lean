set_option maxRecDepth 20000 in
theorem ggL_law_L_areSumsSo_8 : GoodIn wsL_law wsX30 := goodIn_r _ [523, 524, 525, 526, 527] (by decide +kernel) (by decide +kernel)
set_option maxRecDepth 20000 in
theorem ggL_law_L_areSumsSo : GoodIn wsL_law wsL_areSumsSo := goodIn_ca (goodIn_ca (goodIn_c1 ggL_law_L_areSumsSo_h (goodIn_app (goodIn_app (goodIn_app (goodIn_app (goodIn_app ggL_law_L_areSumsSo_0 (goodIn_app ggL_law_L_areSumsSo_1 (goodIn_app ggL_law_L_areSumsSo_2 (goodIn_app ggL_law_L_areSumsSo_3 ggL_law_L_areSumsSo_4)))) ggL_law_L_areSumsSo_5) ggL_law_L_areSumsSo_6) ggL_law_L_areSumsSo_7) ggL_law_L_areSumsSo_8)) (goodIn_sub (fun _ h => List.mem_append_left _ (List.mem_append_left _ (List.mem_append_right _ h))) (by decide +kernel))) (goodIn_sub (fun _ h => List.mem_append_left _ (List.mem_append_right _ h)) (by decide +kernel))
set_option maxRecDepth 20000 in
theorem gL_law_L_areSumsSo : GoodIn wsL_law (va_wsS RL 122 yL_areSumsSo wsL_areSumsSo) := goodIn_app (goodIn_of _ (by decide +kernel)) ggL_law_L_areSumsSo
set_option maxRecDepth 20000 in
theorem ggL_law_L_low : GoodIn wsL_law wsL_low := goodIn_r _ [218, 219] (by decide +kernel) (by decide +kernel)
set_option maxRecDepth 20000 in
theorem gL_law_L_low : GoodIn wsL_law (va_wsS RL 48 yL_low wsL_low) := goodIn_app (goodIn_of _ (by decide +kernel)) ggL_law_L_low
set_option maxRecDepth 20000 in
theorem ggL_law_L_isStanding_h : GoodIn wsL_law [.code yL_isStanding cL_isStanding 2 (some .boolean)] := goodIn_r _ [286] (by decide +kernel) (by decide +kernel)
set_option maxRecDepth 20000 in
theorem ggL_law_L_isStanding_0 : GoodIn wsL_law wsL_isStanding_r1 := goodIn_r _ [114, 115, 116, 2, 117, 118, 119, 13, 120, 121, 122, 12, 123, 56, 54, 55, 57, 58, 59, 124, 125, 126, 127, 128] (by decide +kernel) (by decide +kernel)
set_option maxRecDepth 20000 in
theorem ggL_law_L_isStanding_1 : GoodIn wsL_law wsL_isStanding_r2 := goodIn_r _ [129, 130, 131, 132, 34, 40, 133, 134, 135, 136, 137, 138, 139, 140, 141, 142, 143, 144, 145, 146, 147, 148, 149, 150] (by decide +kernel) (by decide +kernel)
set_option maxRecDepth 20000 in
theorem ggL_law_L_isStanding_2 : GoodIn wsL_law wsL_isStanding_r3 := goodIn_r _ [151, 152, 153, 154, 155, 156, 157, 158, 159, 160, 161, 162, 163, 164, 165, 72, 73, 74, 75, 32, 37, 166, 167, 168] (by decide +kernel) (by decide +kernel)
set_option maxRecDepth 20000 in
theorem ggL_law_L_isStanding_3 : GoodIn wsL_law wsL_isStanding_r4 := goodIn_r _ [36, 169, 83, 44] (by decide +kernel) (by decide +kernel)
set_option maxRecDepth 20000 in
theorem ggL_law_L_isStanding_4 : GoodIn wsL_law wsX50 := goodIn_r _ [500, 501, 502, 503, 504, 505] (by decide +kernel) (by decide +kernel)
set_option maxRecDepth 20000 in
theorem ggL_law_L_isStanding_5 : GoodIn wsL_law wsX10 := goodIn_r _ [506, 507, 508, 509, 510, 511, 512, 513, 514, 515, 516] (by decide +kernel) (by decide +kernel)
set_option maxRecDepth 20000 in
theorem ggL_law_L_isStanding_6 : GoodIn wsL_law wsX40 := goodIn_r _ [528, 529, 530, 531, 532, 533, 534, 535, 536] (by decide +kernel) (by decide +kernel)
set_option maxRecDepth 20000 in
theorem ggL_law_L_isStanding_7 : GoodIn wsL_law wsX30 := goodIn_r _ [523, 524, 525, 526, 527] (by decide +kernel) (by decide +kernel)
set_option maxRecDepth 20000 in
theorem ggL_law_L_isStanding : GoodIn wsL_law wsL_isStanding := goodIn_ca (goodIn_ca (goodIn_c1 ggL_law_L_isStanding_h (goodIn_app (goodIn_app (goodIn_app (goodIn_app (goodIn_app ggL_law_L_isStanding_0 (goodIn_app ggL_law_L_isStanding_1 (goodIn_app ggL_law_L_isStanding_2 ggL_law_L_isStanding_3))) ggL_law_L_isStanding_4) ggL_law_L_isStanding_5) ggL_law_L_isStanding_6) ggL_law_L_isStanding_7)) (goodIn_sub (fun _ h => List.mem_append_left _ (List.mem_append_left _ (List.mem_append_right _ h))) (by decide +kernel))) (goodIn_sub (fun _ h => List.mem_append_left _ (List.mem_append_right _ h)) (by decide +kernel))
set_option maxRecDepth 20000 in
theorem gL_law_L_isStanding : GoodIn wsL_law (va_wsS RL 42 yL_isStanding wsL_isStanding) := goodIn_app (goodIn_of _ (by decide +kernel)) ggL_law_L_isStanding
set_option maxRecDepth 20000 in
theorem ggL_law_L_isForetold_h : GoodIn wsL_law [.code yL_isForetold cL_isForetold 6 (some .boolean)] := goodIn_r _ [454] (by decide +kernel) (by decide +kernel)
set_option maxRecDepth 20000 in
theorem ggL_law_L_isForetold_0 : GoodIn wsL_law wsL_isForetold_r1 := goodIn_r _ [455, 456, 457, 2, 458, 13, 350, 351, 352, 353, 224, 225, 142, 143, 144, 145, 146, 147, 148, 149, 150, 12, 151, 55] (by decide +kernel) (by decide +kernel)
set_option maxRecDepth 20000 in
theorem ggL_law_L_isForetold_1 : GoodIn wsL_law wsL_isForetold_r2 := goodIn_r _ [354, 300, 301, 302, 128, 303, 129, 130, 131, 132, 34, 40, 459, 460, 461, 462, 157, 72, 73, 74, 75, 32, 37, 162] (by decide +kernel) (by decide +kernel)
set_option maxRecDepth 20000 in
theorem ggL_law_L_isForetold_2 : GoodIn wsL_law wsL_isForetold_r3 := goodIn_r _ [163, 164, 165, 166, 167, 168, 36, 169, 83, 44, 463, 464, 465, 466, 80, 81, 467, 468, 469, 470, 118, 119, 471, 472] (by decide +kernel) (by decide +kernel)
set_option maxRecDepth 20000 in
theorem ggL_law_L_isForetold_3 : GoodIn wsL_law wsL_isForetold_r4 := goodIn_r _ [473, 474, 158, 333, 334, 335, 336, 30, 299, 475, 476, 477, 478, 479, 114, 115, 116, 117, 120, 121, 122, 123, 56, 54] (by decide +kernel) (by decide +kernel)
