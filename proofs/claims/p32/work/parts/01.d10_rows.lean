set_option maxRecDepth 20000 in
theorem ggL_law_L_isForetold_4 : GoodIn wsL_law wsL_isForetold_r5 := goodIn_r _ [57, 58, 59, 124, 125, 126, 127, 133, 134, 135, 136, 137, 410, 411, 412, 413, 18, 234, 235, 236, 17, 237, 238, 239] (by decide +kernel) (by decide +kernel)
set_option maxRecDepth 20000 in
theorem ggL_law_L_isForetold_5 : GoodIn wsL_law wsL_isForetold_r6 := goodIn_r _ [240, 241, 242, 243, 89, 244, 245, 246, 247, 248, 249, 250, 251, 60, 61, 62, 63, 252, 253, 254, 255, 82, 256, 257] (by decide +kernel) (by decide +kernel)
set_option maxRecDepth 20000 in
theorem ggL_law_L_isForetold_6 : GoodIn wsL_law wsL_isForetold_r7 := goodIn_r _ [258, 259, 39, 260, 261, 48, 49, 262, 263, 264, 265, 266, 267, 414, 415, 416, 417, 418, 419, 420, 421, 422, 423, 424] (by decide +kernel) (by decide +kernel)
set_option maxRecDepth 20000 in
theorem ggL_law_L_isForetold_7 : GoodIn wsL_law wsL_isForetold_r8 := goodIn_r _ [425, 187, 188, 186, 189, 194, 195, 196, 197, 198, 199, 200, 201, 363, 364, 365, 366, 359, 360, 361, 362, 426, 427, 428] (by decide +kernel) (by decide +kernel)
set_option maxRecDepth 20000 in
theorem ggL_law_L_isForetold_8 : GoodIn wsL_law wsL_isForetold_r9 := goodIn_r _ [429, 342, 343, 344, 345, 159, 138, 139, 140, 141, 152, 153, 154, 155, 156, 160, 161, 430, 431, 432, 433, 434, 435, 436] (by decide +kernel) (by decide +kernel)
set_option maxRecDepth 20000 in
theorem ggL_law_L_isForetold_9 : GoodIn wsL_law wsL_isForetold_r10 := goodIn_r _ [437, 438, 439, 440, 441, 442] (by decide +kernel) (by decide +kernel)
set_option maxRecDepth 20000 in
theorem ggL_law_L_isForetold_10 : GoodIn wsL_law wsX50 := goodIn_r _ [500, 501, 502, 503, 504, 505] (by decide +kernel) (by decide +kernel)
set_option maxRecDepth 20000 in
theorem ggL_law_L_isForetold_11 : GoodIn wsL_law wsX10 := goodIn_r _ [506, 507, 508, 509, 510, 511, 512, 513, 514, 515, 516] (by decide +kernel) (by decide +kernel)
set_option maxRecDepth 20000 in
theorem ggL_law_L_isForetold_12 : GoodIn wsL_law wsX40 := goodIn_r _ [528, 529, 530, 531, 532, 533, 534, 535, 536] (by decide +kernel) (by decide +kernel)
set_option maxRecDepth 20000 in
theorem ggL_law_L_isForetold_13 : GoodIn wsL_law wsX30 := goodIn_r _ [523, 524, 525, 526, 527] (by decide +kernel) (by decide +kernel)
set_option maxRecDepth 20000 in
theorem ggL_law_L_isForetold_14 : GoodIn wsL_law wsX20 := goodIn_r _ [517, 518, 519] (by decide +kernel) (by decide +kernel)
set_option maxRecDepth 20000 in
theorem ggL_law_L_isForetold : GoodIn wsL_law wsL_isForetold := goodIn_ca (goodIn_ca (goodIn_ca (goodIn_c1 ggL_law_L_isForetold_h (goodIn_app (goodIn_app (goodIn_app (goodIn_app (goodIn_app (goodIn_app ggL_law_L_isForetold_0 (goodIn_app ggL_law_L_isForetold_1 (goodIn_app ggL_law_L_isForetold_2 (goodIn_app ggL_law_L_isForetold_3 (goodIn_app ggL_law_L_isForetold_4 (goodIn_app ggL_law_L_isForetold_5 (goodIn_app ggL_law_L_isForetold_6 (goodIn_app ggL_law_L_isForetold_7 (goodIn_app ggL_law_L_isForetold_8 ggL_law_L_isForetold_9))))))))) ggL_law_L_isForetold_10) ggL_law_L_isForetold_11) ggL_law_L_isForetold_12) ggL_law_L_isForetold_13) ggL_law_L_isForetold_14)) (goodIn_sub (fun _ h => List.mem_append_right _ h) (by decide +kernel))) (goodIn_sub (fun _ h => List.mem_append_left _ (List.mem_append_right _ h)) (by decide +kernel))) (goodIn_sub (fun _ h => List.mem_append_left _ (List.mem_append_left _ (List.mem_append_right _ h))) (by decide +kernel))
set_option maxRecDepth 20000 in
theorem gL_law_L_isForetold : GoodIn wsL_law (va_wsS RL 126 yL_isForetold wsL_isForetold) := goodIn_app (goodIn_of _ (by decide +kernel)) ggL_law_L_isForetold
set_option maxRecDepth 20000 in
theorem ggL_law_L_mayExchange_h : GoodIn wsL_law [.code yL_mayExchange cL_mayExchange 4 (some .boolean)] := goodIn_r _ [283] (by decide +kernel) (by decide +kernel)
set_option maxRecDepth 20000 in
theorem ggL_law_L_mayExchange_0 : GoodIn wsL_law wsL_mayExchange_r1 := goodIn_r _ [284, 285, 97, 286, 114, 115, 116, 2, 117, 118, 119, 13, 120, 121, 122, 12, 123, 56, 54, 55, 57, 58, 59, 124] (by decide +kernel) (by decide +kernel)
set_option maxRecDepth 20000 in
theorem ggL_law_L_mayExchange_1 : GoodIn wsL_law wsL_mayExchange_r2 := goodIn_r _ [125, 126, 127, 128, 129, 130, 131, 132, 34, 40, 133, 134, 135, 136, 137, 138, 139, 140, 141, 142, 143, 144, 145, 146] (by decide +kernel) (by decide +kernel)
