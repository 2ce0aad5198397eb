set_option maxRecDepth 20000 in
theorem ggL_law_L_does_11 : GoodIn wsL_law wsL_does_r12 := goodIn_r _ [346, 347, 348, 349, 350, 351, 352, 353, 354, 355, 356, 357, 358, 359, 360, 361, 362, 363, 364, 365, 366, 367, 368, 369] (by decide +kernel) (by decide +kernel)
set_option maxRecDepth 20000 in
theorem ggL_law_L_does_12 : GoodIn wsL_law wsL_does_r13 := goodIn_r _ [370, 371, 372, 373, 374, 375, 376, 377, 378, 379, 380, 381, 382, 383, 384, 385, 386, 387, 388, 389, 390, 391, 392, 393] (by decide +kernel) (by decide +kernel)
set_option maxRecDepth 20000 in
theorem ggL_law_L_does_13 : GoodIn wsL_law wsL_does_r14 := goodIn_r _ [394, 395, 396, 397, 398, 399, 69, 70, 71, 64, 65, 66, 67, 68, 76, 77, 78, 79, 400, 401, 402, 403, 404, 405] (by decide +kernel) (by decide +kernel)
set_option maxRecDepth 20000 in
theorem ggL_law_L_does_14 : GoodIn wsL_law wsL_does_r15 := goodIn_r _ [406, 407, 408, 409, 410, 411, 412, 413, 414, 415, 416, 417, 418, 419, 420, 421, 422, 423, 424, 425, 426, 427, 428, 429] (by decide +kernel) (by decide +kernel)
set_option maxRecDepth 20000 in
theorem ggL_law_L_does_15 : GoodIn wsL_law wsX50 := goodIn_r _ [500, 501, 502, 503, 504, 505] (by decide +kernel) (by decide +kernel)
set_option maxRecDepth 20000 in
theorem ggL_law_L_does_16 : GoodIn wsL_law wsX10 := goodIn_r _ [506, 507, 508, 509, 510, 511, 512, 513, 514, 515, 516] (by decide +kernel) (by decide +kernel)
set_option maxRecDepth 20000 in
theorem ggL_law_L_does_17 : GoodIn wsL_law wsX40 := goodIn_r _ [528, 529, 530, 531, 532, 533, 534, 535, 536] (by decide +kernel) (by decide +kernel)
set_option maxRecDepth 20000 in
theorem ggL_law_L_does_18 : GoodIn wsL_law wsX30 := goodIn_r _ [523, 524, 525, 526, 527] (by decide +kernel) (by decide +kernel)
set_option maxRecDepth 20000 in
theorem ggL_law_L_does_19 : GoodIn wsL_law wsX20 := goodIn_r _ [517, 518, 519] (by decide +kernel) (by decide +kernel)
set_option maxRecDepth 20000 in
theorem ggL_law_L_does : GoodIn wsL_law wsL_does := goodIn_ca (goodIn_ca (goodIn_ca (goodIn_c1 ggL_law_L_does_h (goodIn_app (goodIn_app (goodIn_app (goodIn_app (goodIn_app (goodIn_app ggL_law_L_does_0 (goodIn_app ggL_law_L_does_1 (goodIn_app ggL_law_L_does_2 (goodIn_app ggL_law_L_does_3 (goodIn_app ggL_law_L_does_4 (goodIn_app ggL_law_L_does_5 (goodIn_app ggL_law_L_does_6 (goodIn_app ggL_law_L_does_7 (goodIn_app ggL_law_L_does_8 (goodIn_app ggL_law_L_does_9 (goodIn_app ggL_law_L_does_10 (goodIn_app ggL_law_L_does_11 (goodIn_app ggL_law_L_does_12 (goodIn_app ggL_law_L_does_13 ggL_law_L_does_14)))))))))))))) ggL_law_L_does_15) ggL_law_L_does_16) ggL_law_L_does_17) ggL_law_L_does_18) ggL_law_L_does_19)) (goodIn_sub (fun _ h => List.mem_append_left _ (List.mem_append_left _ (List.mem_append_right _ h))) (by decide +kernel))) (goodIn_sub (fun _ h => List.mem_append_left _ (List.mem_append_right _ h)) (by decide +kernel))) (goodIn_sub (fun _ h => List.mem_append_right _ h) (by decide +kernel))
set_option maxRecDepth 20000 in
theorem gL_law_L_does : GoodIn wsL_law (va_wsS RL 118 yL_does wsL_does) := goodIn_app (goodIn_of _ (by decide +kernel)) ggL_law_L_does
set_option maxRecDepth 20000 in
theorem ggL_law_X5_undo_h : GoodIn wsL_law [.code yX5_undo cX5_undo 1 (some .int)] := goodIn_r _ [433] (by decide +kernel) (by decide +kernel)
set_option maxRecDepth 20000 in
theorem ggL_law_X5_undo_0 : GoodIn wsL_law wsX5_undo_r1 := goodIn_r _ [224, 225, 18, 13, 434, 435, 436, 17, 437, 238, 438, 439, 440, 441, 442, 240, 241, 242, 243, 89, 239, 244, 245, 246] (by decide +kernel) (by decide +kernel)
set_option maxRecDepth 20000 in
theorem ggL_law_X5_undo_1 : GoodIn wsL_law wsX5_undo_r2 := goodIn_r _ [247, 248, 249, 250, 12, 251, 54, 55, 56, 57, 58, 59, 30, 60, 61, 62, 63, 32, 34, 72, 73, 74, 75, 37] (by decide +kernel) (by decide +kernel)
set_option maxRecDepth 20000 in
theorem ggL_law_X5_undo_2 : GoodIn wsL_law wsX5_undo_r3 := goodIn_r _ [252, 253, 254, 36, 255, 80, 81, 82, 83, 44, 256, 129, 130, 131, 132, 40, 257, 258, 259, 39, 260, 261, 48, 49] (by decide +kernel) (by decide +kernel)
set_option maxRecDepth 20000 in
theorem ggL_law_X5_undo_3 : GoodIn wsL_law wsX5_undo_r4 := goodIn_r _ [262, 263, 264, 265, 266, 267] (by decide +kernel) (by decide +kernel)
set_option maxRecDepth 20000 in
theorem ggL_law_X5_undo_4 : GoodIn wsL_law wsX50 := goodIn_r _ [500, 501, 502, 503, 504, 505] (by decide +kernel) (by decide +kernel)
set_option maxRecDepth 20000 in
theorem ggL_law_X5_undo_5 : GoodIn wsL_law wsX20 := goodIn_r _ [517, 518, 519] (by decide +kernel) (by decide +kernel)
