set_option maxRecDepth 20000 in
theorem ggL_law_L_does_2 : GoodIn wsL_law wsL_does_r3 := goodIn_r _ [146, 147, 178, 179, 180, 181, 182, 183, 184, 185, 186, 187, 188, 189, 72, 73, 74, 75, 32, 37, 190, 191, 192, 193] (by decide +kernel) (by decide +kernel)
set_option maxRecDepth 20000 in
theorem ggL_law_L_does_3 : GoodIn wsL_law wsL_does_r4 := goodIn_r _ [158, 194, 195, 196, 36, 197, 44, 198, 199, 200, 201, 83, 220, 221, 222, 223, 224, 225, 18, 226, 227, 228, 229, 230] (by decide +kernel) (by decide +kernel)
set_option maxRecDepth 20000 in
theorem ggL_law_L_does_4 : GoodIn wsL_law wsL_does_r5 := goodIn_r _ [231, 232, 233, 234, 235, 236, 17, 237, 238, 239, 240, 241, 242, 243, 89, 244, 245, 246, 247, 248, 249, 250, 251, 30] (by decide +kernel) (by decide +kernel)
set_option maxRecDepth 20000 in
theorem ggL_law_L_does_5 : GoodIn wsL_law wsL_does_r6 := goodIn_r _ [60, 61, 62, 63, 252, 253, 254, 255, 80, 81, 82, 256, 257, 258, 259, 39, 260, 261, 48, 49, 262, 263, 264, 265] (by decide +kernel) (by decide +kernel)
set_option maxRecDepth 20000 in
theorem ggL_law_L_does_6 : GoodIn wsL_law wsL_does_r7 := goodIn_r _ [266, 267, 268, 269, 270, 271, 272, 273, 274, 275, 276, 277, 278, 279, 280, 281, 282, 283, 284, 285, 286, 138, 139, 140] (by decide +kernel) (by decide +kernel)
set_option maxRecDepth 20000 in
theorem ggL_law_L_does_7 : GoodIn wsL_law wsL_does_r8 := goodIn_r _ [141, 142, 143, 144, 145, 148, 149, 150, 151, 152, 153, 154, 155, 156, 157, 159, 160, 161, 162, 163, 164, 165, 166, 167] (by decide +kernel) (by decide +kernel)
set_option maxRecDepth 20000 in
theorem ggL_law_L_does_8 : GoodIn wsL_law wsL_does_r9 := goodIn_r _ [168, 169, 202, 203, 204, 205, 206, 207, 208, 209, 210, 211, 212, 287, 288, 289, 290, 291, 292, 293, 294, 295, 296, 297] (by decide +kernel) (by decide +kernel)
set_option maxRecDepth 20000 in
theorem ggL_law_L_does_9 : GoodIn wsL_law wsL_does_r10 := goodIn_r _ [298, 299, 300, 301, 302, 303, 304, 305, 306, 307, 308, 309, 310, 311, 312, 313, 314, 315, 316, 317, 318, 319, 320, 321] (by decide +kernel) (by decide +kernel)
set_option maxRecDepth 20000 in
theorem ggL_law_L_does_10 : GoodIn wsL_law wsL_does_r11 := goodIn_r _ [322, 323, 324, 325, 326, 327, 328, 329, 330, 331, 332, 333, 334, 335, 336, 337, 338, 339, 340, 341, 342, 343, 344, 345] (by decide +kernel) (by decide +kernel)
