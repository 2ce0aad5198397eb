set_option maxRecDepth 20000 in
theorem ggL_mayJump_X5_about : GoodIn wsL_mayJump wsX5_about := goodIn_ca (goodIn_r _ [9, 10, 11, 12, 13, 14, 15, 16, 17, 18, 19, 20, 21, 22, 23, 24, 25, 26, 27, 28, 29, 30, 31, 32, 33, 34, 35, 36, 37, 38, 39, 81, 82, 83, 84, 85, 86, 87, 88, 89, 90, 91, 92, 93, 94, 95, 96, 97, 98, 99, 100, 101, 102, 103, 104, 105, 106] (by decide +kernel) (by decide +kernel)) (goodIn_sub (fun _ h => List.mem_cons_of_mem _ (List.mem_append_left _ (List.mem_append_right _ h))) (by decide +kernel))
set_option maxRecDepth 20000 in
theorem gL_mayJump_X5_about : GoodIn wsL_mayJump (wsV RL 12 RX5 yX5_about wsX5_about) := goodIn_app (goodIn_of _ (by decide +kernel)) ggL_mayJump_X5_about
theorem dL_mayJump_0 : decode cL_mayJump 0 = .ok (.aload_n 0, 1) := by decide +kernel
theorem dL_mayJump_1 : decode cL_mayJump 1 = .ok (.iload_n 2, 1) := by decide +kernel
theorem dL_mayJump_2 : decode cL_mayJump 2 = .ok (.invokestatic 42, 3) := by decide +kernel
theorem dL_mayJump_5 : decode cL_mayJump 5 = .ok (.ifCond .eq 46, 3) := by decide +kernel
theorem dL_mayJump_8 : decode cL_mayJump 8 = .ok (.aload_n 0, 1) := by decide +kernel
theorem dL_mayJump_9 : decode cL_mayJump 9 = .ok (.iload_n 2, 1) := by decide +kernel
theorem dL_mayJump_10 : decode cL_mayJump 10 = .ok (.iconst 0, 1) := by decide +kernel
theorem dL_mayJump_11 : decode cL_mayJump 11 = .ok (.invokevirtual 20, 3) := by decide +kernel
theorem dL_mayJump_14 : decode cL_mayJump 14 = .ok (.ifCond .le 37, 3) := by decide +kernel
theorem dL_mayJump_17 : decode cL_mayJump 17 = .ok (.aload_n 0, 1) := by decide +kernel
theorem dL_mayJump_18 : decode cL_mayJump 18 = .ok (.iload_n 2, 1) := by decide +kernel
theorem dL_mayJump_19 : decode cL_mayJump 19 = .ok (.iconst 2, 1) := by decide +kernel
theorem dL_mayJump_20 : decode cL_mayJump 20 = .ok (.invokevirtual 20, 3) := by decide +kernel
theorem dL_mayJump_23 : decode cL_mayJump 23 = .ok (.ifCond .le 28, 3) := by decide +kernel
theorem dL_mayJump_26 : decode cL_mayJump 26 = .ok (.aload_n 1, 1) := by decide +kernel
theorem dL_mayJump_27 : decode cL_mayJump 27 = .ok (.iload_n 2, 1) := by decide +kernel
theorem dL_mayJump_28 : decode cL_mayJump 28 = .ok (.iaload, 1) := by decide +kernel
theorem dL_mayJump_29 : decode cL_mayJump 29 = .ok (.ifCond .eq 18, 3) := by decide +kernel
theorem dL_mayJump_32 : decode cL_mayJump 32 = .ok (.aload_n 0, 1) := by decide +kernel
theorem dL_mayJump_33 : decode cL_mayJump 33 = .ok (.iconst 0, 1) := by decide +kernel
theorem dL_mayJump_34 : decode cL_mayJump 34 = .ok (.invokevirtual 12, 3) := by decide +kernel
theorem dL_mayJump_37 : decode cL_mayJump 37 = .ok (.iconst 1, 1) := by decide +kernel
theorem dL_mayJump_38 : decode cL_mayJump 38 = .ok (.iadd, 1) := by decide +kernel
theorem dL_mayJump_39 : decode cL_mayJump 39 = .ok (.aload_n 1, 1) := by decide +kernel
theorem dL_mayJump_40 : decode cL_mayJump 40 = .ok (.iload_n 2, 1) := by decide +kernel
theorem dL_mayJump_41 : decode cL_mayJump 41 = .ok (.iaload, 1) := by decide +kernel
theorem dL_mayJump_42 : decode cL_mayJump 42 = .ok (.isub, 1) := by decide +kernel
theorem dL_mayJump_43 : decode cL_mayJump 43 = .ok (.iconst 5, 1) := by decide +kernel
theorem dL_mayJump_44 : decode cL_mayJump 44 = .ok (.if_icmp .lt 7, 3) := by decide +kernel
theorem dL_mayJump_47 : decode cL_mayJump 47 = .ok (.iconst 1, 1) := by decide +kernel
theorem dL_mayJump_48 : decode cL_mayJump 48 = .ok (.goto 4, 3) := by decide +kernel
theorem dL_mayJump_51 : decode cL_mayJump 51 = .ok (.iconst 0, 1) := by decide +kernel
theorem dL_mayJump_52 : decode cL_mayJump 52 = .ok (.ireturn, 1) := by decide +kernel
set_option maxRecDepth 20000 in
theorem ggL_mayMerge_X5_line : GoodIn wsL_mayMerge wsX5_line := goodIn_ca (goodIn_ca (goodIn_r _ [5, 6, 7, 8, 9, 10, 11, 4, 12, 13, 14, 15, 16, 17, 18, 19, 20, 21, 22, 23, 24, 25, 26, 27, 28, 29, 30, 31, 32, 33, 34, 35, 36, 37, 38, 39, 40, 41, 42, 43, 44, 45, 46, 47, 48, 49, 50, 51, 52, 53, 54, 55, 56, 57, 58, 59, 60, 61, 62, 63, 64, 65, 66, 67, 68, 69, 70, 71, 72, 73, 74, 75, 76, 77, 78, 79, 80, 81, 82, 83, 84, 85, 86, 87] (by decide +kernel) (by decide +kernel)) (goodIn_sub (fun _ h => List.mem_cons_of_mem _ (List.mem_append_left _ (List.mem_append_right _ h))) (by decide +kernel))) (goodIn_sub (fun _ h => List.mem_cons_of_mem _ (List.mem_append_right _ h)) (by decide +kernel))
set_option maxRecDepth 20000 in
theorem gL_mayMerge_X5_line : GoodIn wsL_mayMerge (wsV RL 28 RX5 yX5_line wsX5_line) := goodIn_app (goodIn_of _ (by decide +kernel)) ggL_mayMerge_X5_line
theorem dL_mayMerge_0 : decode cL_mayMerge 0 = .ok (.iload_n 1, 1) := by decide +kernel
theorem dL_mayMerge_1 : decode cL_mayMerge 1 = .ok (.iload_n 2, 1) := by decide +kernel
theorem dL_mayMerge_2 : decode cL_mayMerge 2 = .ok (.if_icmp .eq 25, 3) := by decide +kernel
theorem dL_mayMerge_5 : decode cL_mayMerge 5 = .ok (.aload_n 0, 1) := by decide +kernel
theorem dL_mayMerge_6 : decode cL_mayMerge 6 = .ok (.iload_n 1, 1) := by decide +kernel
theorem dL_mayMerge_7 : decode cL_mayMerge 7 = .ok (.iconst 1, 1) := by decide +kernel
theorem dL_mayMerge_8 : decode cL_mayMerge 8 = .ok (.invokevirtual 28, 3) := by decide +kernel
theorem dL_mayMerge_11 : decode cL_mayMerge 11 = .ok (.aload_n 0, 1) := by decide +kernel
theorem dL_mayMerge_12 : decode cL_mayMerge 12 = .ok (.iload_n 2, 1) := by decide +kernel
theorem dL_mayMerge_13 : decode cL_mayMerge 13 = .ok (.iconst 1, 1) := by decide +kernel
theorem dL_mayMerge_14 : decode cL_mayMerge 14 = .ok (.invokevirtual 28, 3) := by decide +kernel
theorem dL_mayMerge_17 : decode cL_mayMerge 17 = .ok (.iadd, 1) := by decide +kernel
theorem dL_mayMerge_18 : decode cL_mayMerge 18 = .ok (.bipush 12, 2) := by decide +kernel
theorem dL_mayMerge_20 : decode cL_mayMerge 20 = .ok (.if_icmp .gt 7, 3) := by decide +kernel
theorem dL_mayMerge_23 : decode cL_mayMerge 23 = .ok (.iconst 1, 1) := by decide +kernel
theorem dL_mayMerge_24 : decode cL_mayMerge 24 = .ok (.goto 4, 3) := by decide +kernel
theorem dL_mayMerge_27 : decode cL_mayMerge 27 = .ok (.iconst 0, 1) := by decide +kernel
theorem dL_mayMerge_28 : decode cL_mayMerge 28 = .ok (.ireturn, 1) := by decide +kernel
theorem dL_copy_0 : decode cL_copy 0 = .ok (.iconst 0, 1) := by decide +kernel
theorem dL_copy_1 : decode cL_copy 1 = .ok (.istore_n 2, 1) := by decide +kernel
theorem dL_copy_2 : decode cL_copy 2 = .ok (.iload_n 2, 1) := by decide +kernel
theorem dL_copy_3 : decode cL_copy 3 = .ok (.bipush 30, 2) := by decide +kernel
theorem dL_copy_5 : decode cL_copy 5 = .ok (.if_icmp .ge 15, 3) := by decide +kernel
theorem dL_copy_8 : decode cL_copy 8 = .ok (.aload_n 1, 1) := by decide +kernel
theorem dL_copy_9 : decode cL_copy 9 = .ok (.iload_n 2, 1) := by decide +kernel
theorem dL_copy_10 : decode cL_copy 10 = .ok (.aload_n 0, 1) := by decide +kernel
theorem dL_copy_11 : decode cL_copy 11 = .ok (.iload_n 2, 1) := by decide +kernel
theorem dL_copy_12 : decode cL_copy 12 = .ok (.iaload, 1) := by decide +kernel
theorem dL_copy_13 : decode cL_copy 13 = .ok (.iastore, 1) := by decide +kernel
theorem dL_copy_14 : decode cL_copy 14 = .ok (.iinc 2 1, 3) := by decide +kernel
theorem dL_copy_17 : decode cL_copy 17 = .ok (.goto (-15), 3) := by decide +kernel
theorem dL_copy_20 : decode cL_copy 20 = .ok (.return_, 1) := by decide +kernel
set_option maxRecDepth 20000 in
theorem ggL_does_X5_about : GoodIn wsL_does wsX5_about := goodIn_ca (goodIn_r _ [5, 6, 7, 8, 9, 10, 11, 12, 13, 14, 15, 16, 17, 18, 19, 20, 21, 22, 23, 24, 25, 26, 27, 28, 29, 30, 31, 32, 33, 34, 35, 361, 362, 363, 364, 365, 366, 367, 368, 369, 370, 371, 372, 373, 374, 375, 376, 377, 378, 379, 380, 381, 382, 383, 384, 385, 386] (by decide +kernel) (by decide +kernel)) (goodIn_sub (fun _ h => List.mem_cons_of_mem _ (List.mem_append_left _ (List.mem_append_left _ (List.mem_append_right _ h)))) (by decide +kernel))
set_option maxRecDepth 20000 in
theorem gL_does_X5_about : GoodIn wsL_does (wsV RL 12 RX5 yX5_about wsX5_about) := goodIn_app (goodIn_of _ (by decide +kernel)) ggL_does_X5_about
set_option maxRecDepth 20000 in
theorem ggL_does_L_low : GoodIn wsL_does wsL_low := goodIn_r _ [39, 40] (by decide +kernel) (by decide +kernel)
set_option maxRecDepth 20000 in
theorem gL_does_L_low : GoodIn wsL_does (va_wsS RL 48 yL_low wsL_low) := goodIn_app (goodIn_of _ (by decide +kernel)) ggL_does_L_low
set_option maxRecDepth 20000 in
theorem ggL_does_X5_line : GoodIn wsL_does wsX5_line := goodIn_ca (goodIn_ca (goodIn_r _ [44, 6, 7, 8, 45, 46, 47, 4, 48, 49, 50, 51, 52, 53, 12, 54, 15, 55, 56, 57, 58, 59, 60, 61, 62, 63, 64, 65, 66, 67, 68, 69, 70, 71, 72, 73, 74, 75, 76, 77, 78, 79, 80, 81, 82, 83, 84, 25, 26, 27, 28, 29, 30, 361, 362, 363, 364, 365, 366, 367, 368, 369, 370, 371, 372, 373, 374, 375, 376, 377, 387, 388, 389, 390, 391, 378, 379, 380, 381, 382, 383, 384, 385, 386] (by decide +kernel) (by decide +kernel)) (goodIn_sub (fun _ h => List.mem_cons_of_mem _ (List.mem_append_left _ (List.mem_append_left _ (List.mem_append_right _ h)))) (by decide +kernel))) (goodIn_sub (fun _ h => List.mem_cons_of_mem _ (List.mem_append_left _ (List.mem_append_right _ h))) (by decide +kernel))
set_option maxRecDepth 20000 in
theorem gL_does_X5_line : GoodIn wsL_does (wsV RL 28 RX5 yX5_line wsX5_line) := goodIn_app (goodIn_of _ (by decide +kernel)) ggL_does_X5_line
set_option maxRecDepth 20000 in
theorem ggL_does_X5_come : GoodIn wsL_does wsX5_come := goodIn_ca (goodIn_ca (goodIn_ca (goodIn_r _ [88, 6, 7, 89, 90, 8, 91, 45, 46, 47, 4, 48, 49, 50, 51, 52, 53, 12, 54, 15, 92, 93, 94, 95, 96, 97, 98, 16, 60, 99, 63, 64, 65, 66, 67, 68, 100, 101, 102, 103, 104, 105, 106, 107, 108, 109, 110, 111, 112, 113, 114, 115, 116, 117, 118, 119, 14, 17, 18, 19, 120, 121, 122, 123, 124, 29, 125, 126, 127, 77, 128, 129, 130, 131, 84, 79, 132, 25, 26, 27, 28, 30, 133, 134, 135, 136, 137, 138, 139, 140, 141, 142, 143, 144, 145, 146, 147, 148, 149, 150, 151, 152, 153, 154, 155, 156, 157, 158, 159, 361, 362, 363, 364, 365, 366, 367, 368, 369, 370, 371, 372, 373, 374, 375, 376, 377, 387, 388, 389, 390, 391, 392, 393, 394, 378, 379, 380, 381, 382, 383, 384, 385, 386] (by decide +kernel) (by decide +kernel)) (goodIn_sub (fun _ h => List.mem_cons_of_mem _ (List.mem_append_left _ (List.mem_append_left _ (List.mem_append_right _ h)))) (by decide +kernel))) (goodIn_sub (fun _ h => List.mem_cons_of_mem _ (List.mem_append_right _ h)) (by decide +kernel))) (goodIn_sub (fun _ h => List.mem_cons_of_mem _ (List.mem_append_left _ (List.mem_append_right _ h))) (by decide +kernel))
set_option maxRecDepth 20000 in
theorem gL_does_X5_come : GoodIn wsL_does (wsV RL 51 RX5 yX5_come wsX5_come) := goodIn_app (goodIn_of _ (by decide +kernel)) ggL_does_X5_come
set_option maxRecDepth 20000 in
theorem ggL_does_L_mayExchange : GoodIn wsL_does wsL_mayExchange := goodIn_ca (goodIn_ca (goodIn_r _ [162, 163, 164, 38, 165, 1, 2, 3, 4, 5, 6, 7, 8, 9, 10, 11, 12, 13, 14, 15, 16, 17, 18, 19, 20, 21, 22, 23, 24, 25, 26, 27, 28, 29, 30, 31, 32, 33, 34, 35, 166, 167, 168, 169, 170, 171, 172, 173, 49, 50, 174, 175, 176, 177, 178, 179, 180, 181, 182, 183, 73, 184, 185, 186, 187, 188, 189, 190, 63, 64, 65, 66, 67, 68, 191, 192, 193, 77, 194, 84, 79, 195, 196, 197, 198, 199, 200, 201, 202, 203, 204, 205, 120, 361, 362, 363, 364, 365, 366, 367, 368, 369, 370, 371, 372, 373, 374, 375, 376, 377, 378, 379, 380, 381, 382, 383, 384, 385, 386, 387, 388, 389, 390, 391] (by decide +kernel) (by decide +kernel)) (goodIn_sub (fun _ h => List.mem_cons_of_mem _ (List.mem_append_left _ (List.mem_append_left _ (List.mem_append_right _ h)))) (by decide +kernel))) (goodIn_sub (fun _ h => List.mem_cons_of_mem _ (List.mem_append_left _ (List.mem_append_right _ h))) (by decide +kernel))
set_option maxRecDepth 20000 in
theorem gL_does_L_mayExchange : GoodIn wsL_does (va_wsS RL 54 yL_mayExchange wsL_mayExchange) := goodIn_app (goodIn_of _ (by decide +kernel)) ggL_does_L_mayExchange
set_option maxRecDepth 20000 in
theorem ggL_does_X5_exchange : GoodIn wsL_does wsX5_exchange := goodIn_ca (goodIn_ca (goodIn_r _ [209, 91, 8, 210, 211, 212, 4, 213, 89, 90, 170, 171, 172, 173, 49, 50, 174, 175, 176, 12, 177, 16, 214, 215, 216, 217, 183, 35, 73, 218, 219, 220, 221, 24, 222, 25, 26, 27, 28, 29, 30, 187, 188, 189, 190, 63, 64, 65, 66, 67, 68, 191, 192, 193, 77, 194, 84, 79, 223, 224, 225, 226, 120, 100, 101, 102, 103, 104, 105, 106, 107, 108, 109, 110, 111, 112, 113, 114, 115, 116, 117, 118, 119, 15, 14, 17, 18, 19, 121, 122, 123, 124, 125, 126, 127, 128, 129, 130, 131, 132, 133, 134, 135, 136, 137, 138, 139, 140, 141, 142, 143, 144, 145, 146, 227, 228, 229, 230, 186, 231, 232, 233, 234, 235, 80, 81, 82, 83, 361, 362, 363, 364, 365, 366, 367, 368, 369, 370, 371, 372, 373, 374, 375, 376, 377, 378, 379, 380, 381, 382, 383, 384, 385, 386, 387, 388, 389, 390, 391, 392, 393, 394] (by decide +kernel) (by decide +kernel)) (goodIn_sub (fun _ h => List.mem_cons_of_mem _ (List.mem_append_right _ h)) (by decide +kernel))) (goodIn_sub (fun _ h => List.mem_cons_of_mem _ (List.mem_append_left _ (List.mem_append_right _ h))) (by decide +kernel))
set_option maxRecDepth 20000 in
theorem gL_does_X5_exchange : GoodIn wsL_does (wsV RL 58 RX5 yX5_exchange wsX5_exchange) := goodIn_app (goodIn_of _ (by decide +kernel)) ggL_does_X5_exchange
set_option maxRecDepth 20000 in
theorem ggL_does_L_mayJump : GoodIn wsL_does wsL_mayJump := goodIn_ca (goodIn_ca (goodIn_r _ [238, 163, 164, 38, 165, 1, 2, 3, 4, 5, 6, 7, 8, 9, 10, 11, 12, 13, 14, 15, 16, 17, 18, 19, 20, 21, 22, 23, 24, 25, 26, 27, 28, 29, 30, 31, 32, 33, 34, 35, 166, 167, 168, 169, 170, 171, 172, 173, 49, 50, 174, 175, 176, 177, 178, 179, 180, 181, 182, 183, 73, 184, 185, 186, 187, 188, 189, 190, 63, 64, 65, 66, 67, 68, 191, 192, 193, 77, 194, 84, 79, 361, 362, 363, 364, 365, 366, 367, 368, 369, 370, 371, 372, 373, 374, 375, 376, 377, 378, 379, 380, 381, 382, 383, 384, 385, 386, 387, 388, 389, 390, 391] (by decide +kernel) (by decide +kernel)) (goodIn_sub (fun _ h => List.mem_cons_of_mem _ (List.mem_append_left _ (List.mem_append_left _ (List.mem_append_right _ h)))) (by decide +kernel))) (goodIn_sub (fun _ h => List.mem_cons_of_mem _ (List.mem_append_left _ (List.mem_append_right _ h))) (by decide +kernel))
set_option maxRecDepth 20000 in
theorem gL_does_L_mayJump : GoodIn wsL_does (va_wsS RL 61 yL_mayJump wsL_mayJump) := goodIn_app (goodIn_of _ (by decide +kernel)) ggL_does_L_mayJump
set_option maxRecDepth 20000 in
theorem ggL_does_X5_jump : GoodIn wsL_does wsX5_jump := goodIn_ca (goodIn_ca (goodIn_r _ [242, 89, 90, 8, 91, 170, 171, 172, 4, 173, 49, 50, 174, 175, 176, 12, 177, 16, 243, 244, 245, 246, 182, 14, 247, 218, 219, 220, 221, 24, 222, 25, 26, 27, 28, 29, 30, 187, 188, 189, 190, 183, 63, 64, 65, 66, 67, 68, 191, 192, 193, 77, 194, 84, 79, 100, 101, 102, 103, 104, 105, 106, 107, 108, 109, 110, 111, 112, 113, 114, 115, 116, 117, 118, 119, 15, 17, 18, 19, 120, 121, 122, 123, 124, 125, 126, 127, 128, 129, 130, 131, 132, 133, 134, 135, 136, 137, 138, 139, 140, 141, 142, 143, 144, 145, 146, 248, 249, 250, 251, 252, 253, 254, 255, 186, 256, 74, 75, 76, 78, 80, 81, 82, 83, 257, 258, 259, 260, 35, 261, 262, 263, 264, 184, 232, 233, 234, 235, 361, 362, 363, 364, 365, 366, 367, 368, 369, 370, 371, 372, 373, 374, 375, 376, 377, 378, 379, 380, 381, 382, 383, 384, 385, 386, 387, 388, 389, 390, 391, 392, 393, 394] (by decide +kernel) (by decide +kernel)) (goodIn_sub (fun _ h => List.mem_cons_of_mem _ (List.mem_append_right _ h)) (by decide +kernel))) (goodIn_sub (fun _ h => List.mem_cons_of_mem _ (List.mem_append_left _ (List.mem_append_right _ h))) (by decide +kernel))
set_option maxRecDepth 20000 in
theorem gL_does_X5_jump : GoodIn wsL_does (wsV RL 65 RX5 yX5_jump wsX5_jump) := goodIn_app (goodIn_of _ (by decide +kernel)) ggL_does_X5_jump
