set_option maxRecDepth 20000 in
theorem ggL_law_L_simulate : GoodIn wsL_law wsL_simulate := goodIn_ca (goodIn_r _ [965, 124, 966, 967, 968, 2, 969, 130, 131, 18, 17, 970, 971, 972, 973, 430, 431, 432, 940, 610, 611, 16, 612, 59, 60, 61, 62, 63, 64, 35, 65, 66, 67, 68, 37, 39, 77, 78, 79, 80, 42, 613, 614, 615, 41, 616, 85, 86, 87, 88, 49, 617, 353, 354, 355, 356, 45, 618, 619, 620, 44, 621, 361, 53, 54, 362, 363, 364, 365, 366, 367, 974, 975, 976, 977, 978, 979, 980, 945, 339, 340, 341, 342, 343, 344, 345, 346, 347, 348, 349, 350, 351, 352, 357, 358, 359, 360, 368, 369, 370, 371, 947, 408, 409, 410, 376, 411, 412, 413, 414, 415, 416, 377, 378, 379, 380, 381, 382, 383, 384, 385, 386, 387, 388, 389, 390, 391, 392, 393, 394, 417, 418, 419, 420, 421, 422, 423, 424, 399, 400, 401, 402, 948, 426, 427, 428, 429, 433, 434, 435, 436, 437, 438, 439, 440, 441, 442, 443, 444, 445, 446, 447, 448, 449, 450, 451, 946, 373, 374, 375, 395, 396, 397, 398, 403, 404, 405, 406, 949, 707, 708, 709, 464, 710, 703, 704, 705, 711, 712, 713, 714, 715, 716, 717, 718, 742, 453, 454, 455, 456, 457, 458, 459, 460, 461, 462, 463, 465, 466, 467, 468, 469, 470, 1017, 1018, 1019, 1020, 1021, 1022, 1036, 1037, 1038, 1039, 1040, 1041, 1042, 1043, 1044, 1045, 1046, 1053, 1054, 1055, 1056, 1057, 1058, 1059, 1060, 1061, 1062, 1063, 1064, 1065, 1066] (by decide +kernel) (by decide +kernel)) (goodIn_sub (fun _ h => List.mem_append_left _ (List.mem_append_left _ (List.mem_append_right _ h))) (by decide +kernel))
set_option maxRecDepth 20000 in
theorem gL_law_L_simulate : GoodIn wsL_law (va_wsS RL 192 yL_simulate wsL_simulate) := goodIn_app (goodIn_of _ (by decide +kernel)) ggL_law_L_simulate
set_option maxRecDepth 20000 in
theorem ggL_law_X6_simulate_0 : GoodIn wsL_law ((wsX6_simulate.drop 0).take 31) := goodIn_r _ [984, 104, 985, 986, 149, 150, 5, 151, 152, 153, 154, 155, 156, 810, 811, 812, 813, 105, 814, 987, 988, 989, 990, 237, 238, 239, 240, 241, 242, 243, 244] (by decide +kernel) (by decide +kernel)
set_option maxRecDepth 20000 in
theorem ggL_law_X6_simulate_1 : GoodIn wsL_law ((wsX6_simulate.drop 31).take 31) := goodIn_r _ [245, 246, 247, 248, 249, 250, 251, 252, 253, 254, 255, 256, 257, 258, 259, 260, 261, 262, 263, 264, 265, 266, 267, 268, 269, 270, 271, 272, 273, 274, 275] (by decide +kernel) (by decide +kernel)
set_option maxRecDepth 20000 in
theorem ggL_law_X6_simulate_2 : GoodIn wsL_law ((wsX6_simulate.drop 62).take 31) := goodIn_r _ [276, 277, 278, 279, 280, 281, 282, 283, 284, 285, 286, 287, 288, 289, 290, 291, 292, 293, 294, 295, 296, 297, 298, 299, 300, 301, 302, 303, 304, 305, 306] (by decide +kernel) (by decide +kernel)
set_option maxRecDepth 20000 in
theorem ggL_law_X6_simulate_3 : GoodIn wsL_law (wsX6_simulate.drop 93) := goodIn_r _ [307, 723, 724, 725, 726, 727, 728, 729, 730, 731, 732, 733, 734, 815, 816, 817, 818, 1023, 1024, 1025, 1026, 1027, 1028, 1029, 1030, 1031, 1032, 1033, 1034, 1035] (by decide +kernel) (by decide +kernel)
set_option maxRecDepth 20000 in
theorem ggL_law_X6_simulate : GoodIn wsL_law wsX6_simulate := goodIn_tk (lo := 0) 31 ggL_law_X6_simulate_0 (goodIn_tk 31 ggL_law_X6_simulate_1 (goodIn_tk 31 ggL_law_X6_simulate_2 ggL_law_X6_simulate_3))
set_option maxRecDepth 20000 in
theorem gL_law_X6_simulate : GoodIn wsL_law (wsV RL 195 RX6 yX6_simulate wsX6_simulate) := goodIn_app (goodIn_of _ (by decide +kernel)) ggL_law_X6_simulate
set_option maxRecDepth 20000 in
theorem ggL_law_L_save : GoodIn wsL_law wsL_save := goodIn_ca (goodIn_r _ [993, 509, 994, 995, 996, 2, 997, 23, 17, 25, 998, 999, 1000, 1001, 518, 519, 940, 610, 611, 16, 612, 59, 60, 61, 62, 63, 64, 35, 65, 66, 67, 68, 37, 39, 77, 78, 79, 80, 42, 613, 614, 615, 41, 616, 85, 86, 87, 88, 49, 617, 353, 354, 355, 356, 45, 618, 619, 620, 44, 621, 361, 53, 54, 362, 363, 364, 365, 366, 367, 1017, 1018, 1019, 1020, 1021, 1022, 1036, 1037, 1038, 1039, 1040, 1041, 1042, 1043, 1044, 1045, 1046, 1053, 1054, 1055, 1056, 1057, 1058, 1059, 1060, 1061, 1062, 1063, 1064, 1065, 1066] (by decide +kernel) (by decide +kernel)) (goodIn_sub (fun _ h => List.mem_append_right _ h) (by decide +kernel))
set_option maxRecDepth 20000 in
theorem gL_law_L_save : GoodIn wsL_law (va_wsS RL 196 yL_save wsL_save) := goodIn_app (goodIn_of _ (by decide +kernel)) ggL_law_L_save
set_option maxRecDepth 20000 in
theorem ggL_law_X6_save : GoodIn wsL_law wsX6_save := goodIn_r _ [1005, 107, 104, 108, 149, 150, 5, 151, 152, 153, 154, 155, 156, 1023, 1024, 1025, 1026, 1027, 1028, 1029, 1030, 1031, 1032, 1033, 1034, 1035] (by decide +kernel) (by decide +kernel)
set_option maxRecDepth 20000 in
theorem gL_law_X6_save : GoodIn wsL_law (wsV RL 198 RX6 yX6_save wsX6_save) := goodIn_app (goodIn_of _ (by decide +kernel)) ggL_law_X6_save
set_option maxRecDepth 20000 in
theorem ggL_law_L_restore : GoodIn wsL_law wsL_restore := goodIn_ca (goodIn_ca (goodIn_r _ [1008, 509, 125, 1009, 1010, 1011, 2, 1012, 132, 133, 25, 17, 23, 22, 998, 999, 1000, 1001, 518, 519, 940, 610, 611, 16, 612, 59, 60, 61, 62, 63, 64, 35, 65, 66, 67, 68, 37, 39, 77, 78, 79, 80, 42, 613, 614, 615, 41, 616, 85, 86, 87, 88, 49, 617, 353, 354, 355, 356, 45, 618, 619, 620, 44, 621, 361, 53, 54, 362, 363, 364, 365, 366, 367, 315, 316, 317, 21, 318, 319, 320, 1017, 1018, 1019, 1020, 1021, 1022, 1036, 1037, 1038, 1039, 1040, 1041, 1042, 1043, 1044, 1045, 1046, 1053, 1054, 1055, 1056, 1057, 1058, 1059, 1060, 1061, 1062, 1063, 1064, 1065, 1066, 1047, 1048, 1049] (by decide +kernel) (by decide +kernel)) (goodIn_sub (fun _ h => List.mem_append_left _ (List.mem_append_right _ h)) (by decide +kernel))) (goodIn_sub (fun _ h => List.mem_append_right _ h) (by decide +kernel))
set_option maxRecDepth 20000 in
theorem gL_law_L_restore : GoodIn wsL_law (va_wsS RL 199 yL_restore wsL_restore) := goodIn_app (goodIn_of _ (by decide +kernel)) ggL_law_L_restore
set_option maxRecDepth 20000 in
theorem ggL_law_X6_restore : GoodIn wsL_law wsX6_restore := goodIn_r _ [1016, 108, 104, 107, 115, 149, 150, 5, 151, 152, 153, 154, 155, 156, 1023, 1024, 1025, 1026, 1027, 1028, 1029, 1030, 1031, 1032, 1033, 1034, 1035] (by decide +kernel) (by decide +kernel)
set_option maxRecDepth 20000 in
theorem gL_law_X6_restore : GoodIn wsL_law (wsV RL 201 RX6 yX6_restore wsX6_restore) := goodIn_app (goodIn_of _ (by decide +kernel)) ggL_law_X6_restore
