set_option maxRecDepth 20000 in
theorem ggL_does_L_isStanding : GoodIn wsL_does wsL_isStanding := goodIn_ca (goodIn_ca (goodIn_r _ [165, 1, 2, 3, 4, 5, 6, 7, 8, 9, 10, 11, 12, 13, 14, 15, 16, 17, 18, 19, 20, 21, 22, 23, 24, 25, 26, 27, 28, 29, 30, 31, 32, 33, 34, 35, 166, 167, 168, 169, 170, 171, 172, 173, 49, 50, 174, 175, 176, 177, 178, 179, 180, 181, 182, 183, 73, 184, 185, 186, 187, 188, 189, 190, 63, 64, 65, 66, 67, 68, 191, 192, 193, 77, 194, 84, 79, 361, 362, 363, 364, 365, 366, 367, 368, 369, 370, 371, 372, 373, 374, 375, 376, 377, 378, 379, 380, 381, 382, 383, 384, 385, 386, 387, 388, 389, 390, 391] (by decide +kernel) (by decide +kernel)) (goodIn_sub (fun _ h => List.mem_cons_of_mem _ (List.mem_append_left _ (List.mem_append_left _ (List.mem_append_right _ h)))) (by decide +kernel))) (goodIn_sub (fun _ h => List.mem_cons_of_mem _ (List.mem_append_left _ (List.mem_append_right _ h))) (by decide +kernel))
set_option maxRecDepth 20000 in
theorem gL_does_L_isStanding : GoodIn wsL_does (va_wsS RL 42 yL_isStanding wsL_isStanding) := goodIn_app (goodIn_of _ (by decide +kernel)) ggL_does_L_isStanding
set_option maxRecDepth 20000 in
theorem ggL_does_X5_go : GoodIn wsL_does wsX5_go := goodIn_ca (goodIn_ca (goodIn_r _ [268, 91, 8, 269, 270, 271, 4, 272, 89, 90, 170, 171, 172, 173, 49, 50, 174, 175, 176, 12, 177, 16, 273, 219, 220, 221, 24, 222, 25, 26, 27, 28, 29, 30, 100, 101, 102, 103, 104, 105, 106, 107, 108, 109, 110, 111, 112, 113, 114, 115, 116, 117, 118, 119, 15, 14, 17, 18, 19, 120, 121, 122, 123, 124, 67, 63, 64, 65, 66, 68, 125, 126, 127, 77, 128, 129, 130, 131, 84, 79, 132, 133, 134, 135, 136, 137, 138, 139, 140, 141, 142, 143, 144, 145, 146, 274, 275, 276, 277, 183, 73, 218, 187, 188, 189, 190, 191, 192, 193, 194, 278, 279, 280, 281, 80, 81, 82, 83, 282, 283, 284, 285, 361, 362, 363, 364, 365, 366, 367, 368, 369, 370, 371, 372, 373, 374, 375, 376, 377, 378, 379, 380, 381, 382, 383, 384, 385, 386, 392, 393, 394, 387, 388, 389, 390, 391] (by decide +kernel) (by decide +kernel)) (goodIn_sub (fun _ h => List.mem_cons_of_mem _ (List.mem_append_right _ h)) (by decide +kernel))) (goodIn_sub (fun _ h => List.mem_cons_of_mem _ (List.mem_append_left _ (List.mem_append_right _ h))) (by decide +kernel))
set_option maxRecDepth 20000 in
theorem gL_does_X5_go : GoodIn wsL_does (wsV RL 68 RX5 yX5_go wsX5_go) := goodIn_app (goodIn_of _ (by decide +kernel)) ggL_does_X5_go
set_option maxRecDepth 20000 in
theorem ggL_does_L_mayMerge : GoodIn wsL_does wsL_mayMerge := goodIn_ca (goodIn_ca (goodIn_r _ [288, 41, 42, 43, 4, 44, 6, 7, 8, 45, 46, 47, 48, 49, 50, 51, 52, 53, 12, 54, 15, 55, 56, 57, 58, 59, 60, 61, 62, 63, 64, 65, 66, 67, 68, 69, 70, 71, 72, 73, 74, 75, 76, 77, 78, 79, 80, 81, 82, 83, 84, 25, 26, 27, 28, 29, 30, 361, 362, 363, 364, 365, 366, 367, 368, 369, 370, 371, 372, 373, 374, 375, 376, 377, 387, 388, 389, 390, 391, 378, 379, 380, 381, 382, 383, 384, 385, 386] (by decide +kernel) (by decide +kernel)) (goodIn_sub (fun _ h => List.mem_cons_of_mem _ (List.mem_append_left _ (List.mem_append_left _ (List.mem_append_right _ h)))) (by decide +kernel))) (goodIn_sub (fun _ h => List.mem_cons_of_mem _ (List.mem_append_left _ (List.mem_append_right _ h))) (by decide +kernel))
set_option maxRecDepth 20000 in
theorem gL_does_L_mayMerge : GoodIn wsL_does (va_wsS RL 71 yL_mayMerge wsL_mayMerge) := goodIn_app (goodIn_of _ (by decide +kernel)) ggL_does_L_mayMerge
set_option maxRecDepth 20000 in
theorem ggL_does_X5_merge : GoodIn wsL_does wsX5_merge := goodIn_ca (goodIn_ca (goodIn_ca (goodIn_r _ [292, 91, 8, 293, 294, 295, 4, 296, 6, 7, 89, 90, 45, 46, 47, 48, 49, 50, 51, 52, 53, 12, 54, 15, 297, 298, 299, 300, 60, 99, 63, 64, 65, 66, 67, 68, 100, 101, 102, 103, 104, 105, 106, 107, 108, 109, 110, 111, 112, 113, 114, 115, 116, 117, 118, 119, 16, 14, 17, 18, 19, 120, 121, 122, 123, 124, 29, 125, 126, 127, 77, 128, 129, 130, 131, 84, 79, 132, 25, 26, 27, 28, 30, 133, 134, 135, 136, 137, 138, 139, 140, 141, 142, 143, 144, 145, 146, 301, 302, 303, 304, 183, 61, 305, 74, 75, 76, 78, 80, 81, 82, 83, 156, 157, 158, 159, 306, 307, 308, 309, 310, 311, 312, 313, 73, 232, 233, 234, 235, 361, 362, 363, 364, 365, 366, 367, 368, 369, 370, 371, 372, 373, 374, 375, 376, 377, 387, 388, 389, 390, 391, 392, 393, 394, 378, 379, 380, 381, 382, 383, 384, 385, 386] (by decide +kernel) (by decide +kernel)) (goodIn_sub (fun _ h => List.mem_cons_of_mem _ (List.mem_append_left _ (List.mem_append_left _ (List.mem_append_right _ h)))) (by decide +kernel))) (goodIn_sub (fun _ h => List.mem_cons_of_mem _ (List.mem_append_right _ h)) (by decide +kernel))) (goodIn_sub (fun _ h => List.mem_cons_of_mem _ (List.mem_append_left _ (List.mem_append_right _ h))) (by decide +kernel))
set_option maxRecDepth 20000 in
theorem gL_does_X5_merge : GoodIn wsL_does (wsV RL 74 RX5 yX5_merge wsX5_merge) := goodIn_app (goodIn_of _ (by decide +kernel)) ggL_does_X5_merge
set_option maxRecDepth 20000 in
theorem ggL_does_X5_open : GoodIn wsL_does wsX5_open := goodIn_ca (goodIn_ca (goodIn_r _ [317, 6, 7, 89, 90, 8, 91, 318, 319, 320, 12, 321, 15, 100, 101, 102, 103, 104, 105, 106, 107, 108, 109, 110, 111, 112, 113, 114, 115, 116, 117, 118, 119, 16, 14, 17, 18, 19, 120, 121, 122, 123, 124, 67, 29, 63, 64, 65, 66, 68, 125, 126, 127, 77, 128, 129, 130, 131, 84, 79, 132, 25, 26, 27, 28, 30, 133, 134, 135, 136, 137, 138, 139, 140, 141, 142, 143, 144, 145, 146, 322, 323, 324, 325, 326, 327, 328, 329, 330, 361, 362, 363, 364, 365, 366, 367, 368, 369, 370, 371, 372, 373, 374, 375, 376, 377, 392, 393, 394, 387, 388, 389, 390, 391, 378, 379, 380, 381, 382, 383, 384, 385, 386] (by decide +kernel) (by decide +kernel)) (goodIn_sub (fun _ h => List.mem_cons_of_mem _ (List.mem_append_left _ (List.mem_append_left _ (List.mem_append_right _ h)))) (by decide +kernel))) (goodIn_sub (fun _ h => List.mem_cons_of_mem _ (List.mem_append_right _ h)) (by decide +kernel))
set_option maxRecDepth 20000 in
theorem gL_does_X5_open : GoodIn wsL_does (wsV RL 77 RX5 yX5_open wsX5_open) := goodIn_app (goodIn_of _ (by decide +kernel)) ggL_does_X5_open
set_option maxRecDepth 20000 in
theorem ggL_does_X5_set : GoodIn wsL_does wsX5_set := goodIn_ca (goodIn_r _ [334, 6, 7, 335, 336, 91, 8, 199, 200, 4, 201, 100, 101, 102, 103, 104, 105, 106, 107, 108, 109, 110, 111, 112, 113, 114, 115, 116, 117, 118, 12, 119, 15, 16, 14, 17, 18, 19, 120, 121, 122, 123, 124, 67, 29, 63, 64, 65, 66, 68, 125, 126, 127, 77, 128, 129, 130, 131, 84, 79, 132, 25, 26, 27, 28, 30, 133, 134, 135, 136, 137, 138, 139, 140, 141, 142, 143, 144, 145, 146, 337, 338, 339, 340, 361, 362, 363, 364, 365, 366, 392, 393, 394, 367, 368, 369, 370, 371, 372, 373, 374, 375, 376, 377, 387, 388, 389, 390, 391, 378, 379, 380, 381, 382, 383, 384, 385, 386] (by decide +kernel) (by decide +kernel)) (goodIn_sub (fun _ h => List.mem_cons_of_mem _ (List.mem_append_left _ (List.mem_append_left _ (List.mem_append_right _ h)))) (by decide +kernel))
set_option maxRecDepth 20000 in
theorem gL_does_X5_set : GoodIn wsL_does (wsV RL 80 RX5 yX5_set wsX5_set) := goodIn_app (goodIn_of _ (by decide +kernel)) ggL_does_X5_set
set_option maxRecDepth 20000 in
theorem ggL_does_X5_minutes : GoodIn wsL_does wsX5_minutes := goodIn_ca (goodIn_r _ [344, 6, 7, 91, 8, 100, 101, 102, 103, 104, 105, 106, 107, 108, 109, 110, 111, 112, 113, 114, 115, 116, 117, 118, 12, 119, 15, 16, 14, 17, 18, 19, 120, 121, 122, 123, 124, 67, 29, 63, 64, 65, 66, 68, 125, 126, 127, 77, 128, 129, 130, 131, 84, 79, 132, 25, 26, 27, 28, 30, 133, 134, 135, 136, 137, 138, 139, 140, 141, 142, 143, 144, 145, 146, 345, 346, 347, 348, 349, 350, 351, 352, 73, 218, 219, 220, 221, 24, 222, 175, 176, 177, 353, 354, 355, 356, 60, 61, 59, 62, 74, 75, 76, 78, 80, 81, 82, 83, 282, 283, 284, 285, 278, 279, 280, 281, 357, 358, 359, 360, 261, 262, 263, 264, 35, 184, 361, 362, 363, 364, 365, 366, 392, 393, 394, 367, 368, 369, 370, 371, 372, 373, 374, 375, 376, 377, 387, 388, 389, 390, 391, 378, 379, 380, 381, 382, 383, 384, 385, 386] (by decide +kernel) (by decide +kernel)) (goodIn_sub (fun _ h => List.mem_cons_of_mem _ (List.mem_append_left _ (List.mem_append_left _ (List.mem_append_right _ h)))) (by decide +kernel))
set_option maxRecDepth 20000 in
theorem gL_does_X5_minutes : GoodIn wsL_does (wsV RL 83 RX5 yX5_minutes wsX5_minutes) := goodIn_app (goodIn_of _ (by decide +kernel)) ggL_does_X5_minutes
theorem dL_does_0 : decode cL_does 0 = .ok (.aload_n 0, 1) := by decide +kernel
theorem dL_does_1 : decode cL_does 1 = .ok (.iconst 2, 1) := by decide +kernel
theorem dL_does_2 : decode cL_does 2 = .ok (.invokevirtual 12, 3) := by decide +kernel
theorem dL_does_5 : decode cL_does 5 = .ok (.ifCond .ne 7, 3) := by decide +kernel
theorem dL_does_8 : decode cL_does 8 = .ok (.iconst 1, 1) := by decide +kernel
theorem dL_does_9 : decode cL_does 9 = .ok (.goto 8, 3) := by decide +kernel
theorem dL_does_12 : decode cL_does 12 = .ok (.aload_n 0, 1) := by decide +kernel
theorem dL_does_13 : decode cL_does 13 = .ok (.iconst 2, 1) := by decide +kernel
theorem dL_does_14 : decode cL_does 14 = .ok (.invokevirtual 12, 3) := by decide +kernel
theorem dL_does_17 : decode cL_does 17 = .ok (.istore_n 3, 1) := by decide +kernel
theorem dL_does_18 : decode cL_does 18 = .ok (.iload_n 2, 1) := by decide +kernel
theorem dL_does_19 : decode cL_does 19 = .ok (.iconst 4, 1) := by decide +kernel
theorem dL_does_20 : decode cL_does 20 = .ok (.ishr, 1) := by decide +kernel
theorem dL_does_21 : decode cL_does 21 = .ok (.aload_n 0, 1) := by decide +kernel
theorem dL_does_22 : decode cL_does 22 = .ok (.iconst 1, 1) := by decide +kernel
theorem dL_does_23 : decode cL_does 23 = .ok (.invokevirtual 12, 3) := by decide +kernel
theorem dL_does_26 : decode cL_does 26 = .ok (.invokestatic 48, 3) := by decide +kernel
theorem dL_does_29 : decode cL_does 29 = .ok (.istore 4, 2) := by decide +kernel
theorem dL_does_31 : decode cL_does 31 = .ok (.iload_n 2, 1) := by decide +kernel
theorem dL_does_32 : decode cL_does 32 = .ok (.iconst 4, 1) := by decide +kernel
theorem dL_does_33 : decode cL_does 33 = .ok (.ishr, 1) := by decide +kernel
theorem dL_does_34 : decode cL_does 34 = .ok (.iload_n 3, 1) := by decide +kernel
theorem dL_does_35 : decode cL_does 35 = .ok (.invokestatic 48, 3) := by decide +kernel
theorem dL_does_38 : decode cL_does 38 = .ok (.istore 5, 2) := by decide +kernel
theorem dL_does_40 : decode cL_does 40 = .ok (.iload_n 2, 1) := by decide +kernel
theorem dL_does_41 : decode cL_does 41 = .ok (.bipush 9, 2) := by decide +kernel
theorem dL_does_43 : decode cL_does 43 = .ok (.ishr, 1) := by decide +kernel
theorem dL_does_44 : decode cL_does 44 = .ok (.iload_n 3, 1) := by decide +kernel
theorem dL_does_45 : decode cL_does 45 = .ok (.invokestatic 48, 3) := by decide +kernel
theorem dL_does_48 : decode cL_does 48 = .ok (.istore 6, 2) := by decide +kernel
theorem dL_does_50 : decode cL_does 50 = .ok (.iload_n 2, 1) := by decide +kernel
theorem dL_does_51 : decode cL_does 51 = .ok (.bipush 15, 2) := by decide +kernel
theorem dL_does_53 : decode cL_does 53 = .ok (.iand, 1) := by decide +kernel
theorem dL_does_54 : decode cL_does 54 = .ok (.istore 7, 2) := by decide +kernel
theorem dL_does_56 : decode cL_does 56 = .ok (.iload 7, 2) := by decide +kernel
theorem dL_does_58 : decode cL_does 58 = .ok (.iconst 4, 1) := by decide +kernel
theorem dL_does_59 : decode cL_does 59 = .ok (.if_icmp .ge 40, 3) := by decide +kernel
theorem dL_does_62 : decode cL_does 62 = .ok (.aload_n 0, 1) := by decide +kernel
theorem dL_does_63 : decode cL_does 63 = .ok (.iconst 2, 1) := by decide +kernel
theorem dL_does_64 : decode cL_does 64 = .ok (.invokevirtual 12, 3) := by decide +kernel
theorem dL_does_67 : decode cL_does 67 = .ok (.bipush 30, 2) := by decide +kernel
theorem dL_does_69 : decode cL_does 69 = .ok (.if_icmp .ge 30, 3) := by decide +kernel
theorem dL_does_72 : decode cL_does 72 = .ok (.aload_n 0, 1) := by decide +kernel
theorem dL_does_73 : decode cL_does 73 = .ok (.iload 4, 2) := by decide +kernel
theorem dL_does_75 : decode cL_does 75 = .ok (.iconst 1, 1) := by decide +kernel
theorem dL_does_76 : decode cL_does 76 = .ok (.invokevirtual 28, 3) := by decide +kernel
theorem dL_does_79 : decode cL_does 79 = .ok (.bipush 12, 2) := by decide +kernel
theorem dL_does_81 : decode cL_does 81 = .ok (.if_icmp .ge 18, 3) := by decide +kernel
theorem dL_does_84 : decode cL_does 84 = .ok (.aload_n 0, 1) := by decide +kernel
theorem dL_does_85 : decode cL_does 85 = .ok (.iload 4, 2) := by decide +kernel
theorem dL_does_87 : decode cL_does 87 = .ok (.iload_n 2, 1) := by decide +kernel
theorem dL_does_88 : decode cL_does 88 = .ok (.bipush 8, 2) := by decide +kernel
theorem dL_does_90 : decode cL_does 90 = .ok (.ishr, 1) := by decide +kernel
theorem dL_does_91 : decode cL_does 91 = .ok (.iconst 3, 1) := by decide +kernel
theorem dL_does_92 : decode cL_does 92 = .ok (.invokestatic 48, 3) := by decide +kernel
theorem dL_does_95 : decode cL_does 95 = .ok (.invokevirtual 51, 3) := by decide +kernel
theorem dL_does_98 : decode cL_does 98 = .ok (.ireturn, 1) := by decide +kernel
theorem dL_does_99 : decode cL_does 99 = .ok (.iload 7, 2) := by decide +kernel
theorem dL_does_101 : decode cL_does 101 = .ok (.iconst 4, 1) := by decide +kernel
theorem dL_does_102 : decode cL_does 102 = .ok (.if_icmp .eq 9, 3) := by decide +kernel
theorem dL_does_105 : decode cL_does 105 = .ok (.iload 7, 2) := by decide +kernel
theorem dL_does_107 : decode cL_does 107 = .ok (.iconst 5, 1) := by decide +kernel
theorem dL_does_108 : decode cL_does 108 = .ok (.if_icmp .ne 23, 3) := by decide +kernel
theorem dL_does_111 : decode cL_does 111 = .ok (.aload_n 0, 1) := by decide +kernel
theorem dL_does_112 : decode cL_does 112 = .ok (.iload 5, 2) := by decide +kernel
theorem dL_does_114 : decode cL_does 114 = .ok (.iload 6, 2) := by decide +kernel
theorem dL_does_116 : decode cL_does 116 = .ok (.invokestatic 54, 3) := by decide +kernel
theorem dL_does_119 : decode cL_does 119 = .ok (.ifCond .eq 12, 3) := by decide +kernel
theorem dL_does_122 : decode cL_does 122 = .ok (.aload_n 0, 1) := by decide +kernel
theorem dL_does_123 : decode cL_does 123 = .ok (.iload 5, 2) := by decide +kernel
theorem dL_does_125 : decode cL_does 125 = .ok (.iload 6, 2) := by decide +kernel
theorem dL_does_127 : decode cL_does 127 = .ok (.invokevirtual 58, 3) := by decide +kernel
theorem dL_does_130 : decode cL_does 130 = .ok (.ireturn, 1) := by decide +kernel
theorem dL_does_131 : decode cL_does 131 = .ok (.iload 7, 2) := by decide +kernel
theorem dL_does_133 : decode cL_does 133 = .ok (.bipush 6, 2) := by decide +kernel
theorem dL_does_135 : decode cL_does 135 = .ok (.if_icmp .eq 10, 3) := by decide +kernel
theorem dL_does_138 : decode cL_does 138 = .ok (.iload 7, 2) := by decide +kernel
theorem dL_does_140 : decode cL_does 140 = .ok (.bipush 7, 2) := by decide +kernel
theorem dL_does_142 : decode cL_does 142 = .ok (.if_icmp .ne 31, 3) := by decide +kernel
theorem dL_does_145 : decode cL_does 145 = .ok (.aload_n 0, 1) := by decide +kernel
theorem dL_does_146 : decode cL_does 146 = .ok (.aload_n 1, 1) := by decide +kernel
theorem dL_does_147 : decode cL_does 147 = .ok (.iload 5, 2) := by decide +kernel
theorem dL_does_149 : decode cL_does 149 = .ok (.invokestatic 61, 3) := by decide +kernel
theorem dL_does_152 : decode cL_does 152 = .ok (.ifCond .eq 21, 3) := by decide +kernel
theorem dL_does_155 : decode cL_does 155 = .ok (.aload_n 1, 1) := by decide +kernel
theorem dL_does_156 : decode cL_does 156 = .ok (.iload 5, 2) := by decide +kernel
theorem dL_does_158 : decode cL_does 158 = .ok (.aload_n 0, 1) := by decide +kernel
theorem dL_does_159 : decode cL_does 159 = .ok (.iconst 0, 1) := by decide +kernel
theorem dL_does_160 : decode cL_does 160 = .ok (.invokevirtual 12, 3) := by decide +kernel
theorem dL_does_163 : decode cL_does 163 = .ok (.iconst 1, 1) := by decide +kernel
theorem dL_does_164 : decode cL_does 164 = .ok (.iadd, 1) := by decide +kernel
theorem dL_does_165 : decode cL_does 165 = .ok (.iastore, 1) := by decide +kernel
theorem dL_does_166 : decode cL_does 166 = .ok (.aload_n 0, 1) := by decide +kernel
theorem dL_does_167 : decode cL_does 167 = .ok (.iload 5, 2) := by decide +kernel
theorem dL_does_169 : decode cL_does 169 = .ok (.invokevirtual 65, 3) := by decide +kernel
theorem dL_does_172 : decode cL_does 172 = .ok (.ireturn, 1) := by decide +kernel
theorem dL_does_173 : decode cL_does 173 = .ok (.iload 7, 2) := by decide +kernel
theorem dL_does_175 : decode cL_does 175 = .ok (.bipush 8, 2) := by decide +kernel
theorem dL_does_177 : decode cL_does 177 = .ok (.if_icmp .ne 19, 3) := by decide +kernel
theorem dL_does_180 : decode cL_does 180 = .ok (.aload_n 0, 1) := by decide +kernel
theorem dL_does_181 : decode cL_does 181 = .ok (.iload 5, 2) := by decide +kernel
theorem dL_does_183 : decode cL_does 183 = .ok (.invokestatic 42, 3) := by decide +kernel
theorem dL_does_186 : decode cL_does 186 = .ok (.ifCond .eq 10, 3) := by decide +kernel
theorem dL_does_189 : decode cL_does 189 = .ok (.aload_n 0, 1) := by decide +kernel
theorem dL_does_190 : decode cL_does 190 = .ok (.iload 5, 2) := by decide +kernel
theorem dL_does_192 : decode cL_does 192 = .ok (.invokevirtual 68, 3) := by decide +kernel
theorem dL_does_195 : decode cL_does 195 = .ok (.ireturn, 1) := by decide +kernel
theorem dL_does_196 : decode cL_does 196 = .ok (.iload 7, 2) := by decide +kernel
theorem dL_does_198 : decode cL_does 198 = .ok (.bipush 9, 2) := by decide +kernel
theorem dL_does_200 : decode cL_does 200 = .ok (.if_icmp .ne 43, 3) := by decide +kernel
theorem dL_does_203 : decode cL_does 203 = .ok (.aload_n 0, 1) := by decide +kernel
theorem dL_does_204 : decode cL_does 204 = .ok (.iload 4, 2) := by decide +kernel
theorem dL_does_206 : decode cL_does 206 = .ok (.iload_n 2, 1) := by decide +kernel
theorem dL_does_207 : decode cL_does 207 = .ok (.bipush 9, 2) := by decide +kernel
theorem dL_does_209 : decode cL_does 209 = .ok (.ishr, 1) := by decide +kernel
theorem dL_does_210 : decode cL_does 210 = .ok (.aload_n 0, 1) := by decide +kernel
theorem dL_does_211 : decode cL_does 211 = .ok (.iconst 1, 1) := by decide +kernel
theorem dL_does_212 : decode cL_does 212 = .ok (.invokevirtual 12, 3) := by decide +kernel
theorem dL_does_215 : decode cL_does 215 = .ok (.invokestatic 48, 3) := by decide +kernel
theorem dL_does_218 : decode cL_does 218 = .ok (.invokestatic 71, 3) := by decide +kernel
theorem dL_does_221 : decode cL_does 221 = .ok (.ifCond .eq 22, 3) := by decide +kernel
theorem dL_does_224 : decode cL_does 224 = .ok (.aload_n 0, 1) := by decide +kernel
theorem dL_does_225 : decode cL_does 225 = .ok (.iload 4, 2) := by decide +kernel
theorem dL_does_227 : decode cL_does 227 = .ok (.iload_n 2, 1) := by decide +kernel
theorem dL_does_228 : decode cL_does 228 = .ok (.bipush 9, 2) := by decide +kernel
theorem dL_does_230 : decode cL_does 230 = .ok (.ishr, 1) := by decide +kernel
theorem dL_does_231 : decode cL_does 231 = .ok (.aload_n 0, 1) := by decide +kernel
theorem dL_does_232 : decode cL_does 232 = .ok (.iconst 1, 1) := by decide +kernel
theorem dL_does_233 : decode cL_does 233 = .ok (.invokevirtual 12, 3) := by decide +kernel
theorem dL_does_236 : decode cL_does 236 = .ok (.invokestatic 48, 3) := by decide +kernel
theorem dL_does_239 : decode cL_does 239 = .ok (.invokevirtual 74, 3) := by decide +kernel
theorem dL_does_242 : decode cL_does 242 = .ok (.ireturn, 1) := by decide +kernel
theorem dL_does_243 : decode cL_does 243 = .ok (.iload 7, 2) := by decide +kernel
theorem dL_does_245 : decode cL_does 245 = .ok (.bipush 10, 2) := by decide +kernel
theorem dL_does_247 : decode cL_does 247 = .ok (.if_icmp .ne 27, 3) := by decide +kernel
theorem dL_does_250 : decode cL_does 250 = .ok (.aload_n 0, 1) := by decide +kernel
