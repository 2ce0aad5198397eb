set_option maxRecDepth 20000 in
theorem ggL_isForetold_X5_undo : GoodIn wsL_isForetold wsX5_undo := goodIn_ca (goodIn_r _ [213, 11, 12, 113, 6, 214, 215, 216, 117, 217, 119, 218, 219, 220, 221, 222, 121, 122, 123, 124, 125, 120, 126, 127, 128, 129, 130, 131, 132, 22, 133, 96, 24, 95, 97, 98, 99, 80, 134, 135, 136, 137, 46, 35, 42, 43, 44, 45, 47, 138, 139, 140, 55, 141, 63, 64, 142, 57, 58, 143, 31, 32, 33, 34, 36, 144, 145, 146, 147, 148, 149, 150, 151, 152, 153, 154, 155, 156, 157, 223, 224, 225, 226, 227, 228, 254, 255, 256, 229, 230, 231, 232, 233, 234, 235, 236, 237, 238, 239, 249, 250, 251, 252, 253, 240, 241, 242, 243, 244, 245, 246, 247, 248] (by decide +kernel) (by decide +kernel)) (goodIn_sub (fun _ h => List.mem_cons_of_mem _ (List.mem_append_left _ (List.mem_append_left _ (List.mem_append_right _ h)))) (by decide +kernel))
set_option maxRecDepth 20000 in
theorem gL_isForetold_X5_undo : GoodIn wsL_isForetold (wsV RL 95 RX5 yX5_undo wsX5_undo) := goodIn_app (goodIn_of _ (by decide +kernel)) ggL_isForetold_X5_undo
theorem dL_isForetold_0 : decode cL_isForetold 0 = .ok (.aload_n 0, 1) := by decide +kernel
theorem dL_isForetold_1 : decode cL_isForetold 1 = .ok (.iload_n 1, 1) := by decide +kernel
theorem dL_isForetold_2 : decode cL_isForetold 2 = .ok (.invokevirtual 89, 3) := by decide +kernel
theorem dL_isForetold_5 : decode cL_isForetold 5 = .ok (.istore_n 2, 1) := by decide +kernel
theorem dL_isForetold_6 : decode cL_isForetold 6 = .ok (.iload_n 2, 1) := by decide +kernel
theorem dL_isForetold_7 : decode cL_isForetold 7 = .ok (.bipush 60, 2) := by decide +kernel
theorem dL_isForetold_9 : decode cL_isForetold 9 = .ok (.if_icmp .le 5, 3) := by decide +kernel
theorem dL_isForetold_12 : decode cL_isForetold 12 = .ok (.iconst 1, 1) := by decide +kernel
theorem dL_isForetold_13 : decode cL_isForetold 13 = .ok (.ireturn, 1) := by decide +kernel
theorem dL_isForetold_14 : decode cL_isForetold 14 = .ok (.aload_n 0, 1) := by decide +kernel
theorem dL_isForetold_15 : decode cL_isForetold 15 = .ok (.iload_n 2, 1) := by decide +kernel
theorem dL_isForetold_16 : decode cL_isForetold 16 = .ok (.invokevirtual 92, 3) := by decide +kernel
theorem dL_isForetold_19 : decode cL_isForetold 19 = .ok (.istore_n 3, 1) := by decide +kernel
theorem dL_isForetold_20 : decode cL_isForetold 20 = .ok (.aload_n 0, 1) := by decide +kernel
theorem dL_isForetold_21 : decode cL_isForetold 21 = .ok (.bipush 8, 2) := by decide +kernel
theorem dL_isForetold_23 : decode cL_isForetold 23 = .ok (.invokevirtual 12, 3) := by decide +kernel
theorem dL_isForetold_26 : decode cL_isForetold 26 = .ok (.istore 4, 2) := by decide +kernel
theorem dL_isForetold_28 : decode cL_isForetold 28 = .ok (.aload_n 0, 1) := by decide +kernel
theorem dL_isForetold_29 : decode cL_isForetold 29 = .ok (.iload_n 2, 1) := by decide +kernel
theorem dL_isForetold_30 : decode cL_isForetold 30 = .ok (.invokevirtual 83, 3) := by decide +kernel
theorem dL_isForetold_33 : decode cL_isForetold 33 = .ok (.pop, 1) := by decide +kernel
theorem dL_isForetold_34 : decode cL_isForetold 34 = .ok (.aload_n 0, 1) := by decide +kernel
theorem dL_isForetold_35 : decode cL_isForetold 35 = .ok (.iload_n 1, 1) := by decide +kernel
theorem dL_isForetold_36 : decode cL_isForetold 36 = .ok (.bipush 6, 2) := by decide +kernel
theorem dL_isForetold_38 : decode cL_isForetold 38 = .ok (.invokevirtual 20, 3) := by decide +kernel
theorem dL_isForetold_41 : decode cL_isForetold 41 = .ok (.iconst 1, 1) := by decide +kernel
theorem dL_isForetold_42 : decode cL_isForetold 42 = .ok (.if_icmp .ne 20, 3) := by decide +kernel
theorem dL_isForetold_45 : decode cL_isForetold 45 = .ok (.aload_n 0, 1) := by decide +kernel
theorem dL_isForetold_46 : decode cL_isForetold 46 = .ok (.bipush 8, 2) := by decide +kernel
theorem dL_isForetold_48 : decode cL_isForetold 48 = .ok (.invokevirtual 12, 3) := by decide +kernel
theorem dL_isForetold_51 : decode cL_isForetold 51 = .ok (.iload 4, 2) := by decide +kernel
theorem dL_isForetold_53 : decode cL_isForetold 53 = .ok (.isub, 1) := by decide +kernel
theorem dL_isForetold_54 : decode cL_isForetold 54 = .ok (.iload_n 3, 1) := by decide +kernel
theorem dL_isForetold_55 : decode cL_isForetold 55 = .ok (.if_icmp .ne 7, 3) := by decide +kernel
theorem dL_isForetold_58 : decode cL_isForetold 58 = .ok (.iconst 1, 1) := by decide +kernel
theorem dL_isForetold_59 : decode cL_isForetold 59 = .ok (.goto 4, 3) := by decide +kernel
theorem dL_isForetold_62 : decode cL_isForetold 62 = .ok (.iconst 0, 1) := by decide +kernel
theorem dL_isForetold_63 : decode cL_isForetold 63 = .ok (.istore 5, 2) := by decide +kernel
theorem dL_isForetold_65 : decode cL_isForetold 65 = .ok (.aload_n 0, 1) := by decide +kernel
theorem dL_isForetold_66 : decode cL_isForetold 66 = .ok (.invokevirtual 95, 3) := by decide +kernel
theorem dL_isForetold_69 : decode cL_isForetold 69 = .ok (.pop, 1) := by decide +kernel
theorem dL_isForetold_70 : decode cL_isForetold 70 = .ok (.iload_n 2, 1) := by decide +kernel
theorem dL_isForetold_71 : decode cL_isForetold 71 = .ok (.iconst 1, 1) := by decide +kernel
theorem dL_isForetold_72 : decode cL_isForetold 72 = .ok (.if_icmp .le 38, 3) := by decide +kernel
theorem dL_isForetold_75 : decode cL_isForetold 75 = .ok (.aload_n 0, 1) := by decide +kernel
theorem dL_isForetold_76 : decode cL_isForetold 76 = .ok (.iload_n 2, 1) := by decide +kernel
theorem dL_isForetold_77 : decode cL_isForetold 77 = .ok (.iconst 1, 1) := by decide +kernel
theorem dL_isForetold_78 : decode cL_isForetold 78 = .ok (.isub, 1) := by decide +kernel
theorem dL_isForetold_79 : decode cL_isForetold 79 = .ok (.invokevirtual 83, 3) := by decide +kernel
theorem dL_isForetold_82 : decode cL_isForetold 82 = .ok (.pop, 1) := by decide +kernel
theorem dL_isForetold_83 : decode cL_isForetold 83 = .ok (.iload 5, 2) := by decide +kernel
theorem dL_isForetold_85 : decode cL_isForetold 85 = .ok (.ifCond .eq 17, 3) := by decide +kernel
theorem dL_isForetold_88 : decode cL_isForetold 88 = .ok (.aload_n 0, 1) := by decide +kernel
theorem dL_isForetold_89 : decode cL_isForetold 89 = .ok (.iload_n 1, 1) := by decide +kernel
theorem dL_isForetold_90 : decode cL_isForetold 90 = .ok (.bipush 6, 2) := by decide +kernel
theorem dL_isForetold_92 : decode cL_isForetold 92 = .ok (.invokevirtual 20, 3) := by decide +kernel
theorem dL_isForetold_95 : decode cL_isForetold 95 = .ok (.ifCond .ne 7, 3) := by decide +kernel
theorem dL_isForetold_98 : decode cL_isForetold 98 = .ok (.iconst 1, 1) := by decide +kernel
theorem dL_isForetold_99 : decode cL_isForetold 99 = .ok (.goto 4, 3) := by decide +kernel
theorem dL_isForetold_102 : decode cL_isForetold 102 = .ok (.iconst 0, 1) := by decide +kernel
theorem dL_isForetold_103 : decode cL_isForetold 103 = .ok (.istore 5, 2) := by decide +kernel
theorem dL_isForetold_105 : decode cL_isForetold 105 = .ok (.aload_n 0, 1) := by decide +kernel
theorem dL_isForetold_106 : decode cL_isForetold 106 = .ok (.invokevirtual 95, 3) := by decide +kernel
theorem dL_isForetold_109 : decode cL_isForetold 109 = .ok (.pop, 1) := by decide +kernel
theorem dL_isForetold_110 : decode cL_isForetold 110 = .ok (.iload 5, 2) := by decide +kernel
theorem dL_isForetold_112 : decode cL_isForetold 112 = .ok (.ireturn, 1) := by decide +kernel
set_option maxRecDepth 20000 in
theorem ggL_isGainSo_X5_gain : GoodIn wsL_isGainSo wsX5_gain := goodIn_ca (goodIn_ca (goodIn_r _ [5, 6, 7, 8, 9, 4, 10, 11, 12, 13, 14, 15, 16, 17, 18, 19, 20, 21, 22, 23, 24, 25, 26, 27, 28, 29, 30, 31, 32, 33, 34, 35, 36, 37, 38, 39, 40, 41, 42, 43, 44, 45, 46, 47, 48, 49, 50, 51, 52, 53, 54, 55, 56, 57, 58, 59, 60, 61, 62, 63, 64, 65, 66, 67, 68, 69, 70, 71, 72, 73, 74, 75, 192, 193, 194, 195, 196, 197, 198, 199, 200, 201, 202, 203, 204, 205, 206, 207, 208, 209, 210, 211, 212, 213, 214, 215, 216, 217, 218, 219, 220, 221, 222] (by decide +kernel) (by decide +kernel)) (goodIn_sub (fun _ h => List.mem_cons_of_mem _ (List.mem_append_left _ (List.mem_append_left _ (List.mem_append_right _ h)))) (by decide +kernel))) (goodIn_sub (fun _ h => List.mem_cons_of_mem _ (List.mem_append_left _ (List.mem_append_right _ h))) (by decide +kernel))
set_option maxRecDepth 20000 in
theorem gL_isGainSo_X5_gain : GoodIn wsL_isGainSo (wsV RL 99 RX5 yX5_gain wsX5_gain) := goodIn_app (goodIn_of _ (by decide +kernel)) ggL_isGainSo_X5_gain
set_option maxRecDepth 20000 in
theorem ggL_isGainSo_X5_partner : GoodIn wsL_isGainSo wsX5_partner := goodIn_ca (goodIn_r _ [79, 6, 13, 14, 15, 4, 16, 17, 18, 19, 20, 21, 22, 23, 24, 80, 81, 82, 83, 84, 26, 27, 28, 29, 30, 31, 32, 33, 34, 35, 36, 37, 38, 39, 40, 41, 42, 43, 44, 45, 46, 47, 48, 49, 50, 51, 52, 53, 54, 55, 56, 57, 58, 59, 60, 61, 62, 63, 64, 65, 85, 67, 68, 69, 70, 71, 72, 73, 74, 75, 192, 193, 194, 195, 196, 197, 198, 199, 200, 201, 202, 203, 204, 205, 206, 207, 208, 209, 210, 211, 212, 213, 214, 215, 216, 217, 218, 219, 220, 221, 222] (by decide +kernel) (by decide +kernel)) (goodIn_sub (fun _ h => List.mem_cons_of_mem _ (List.mem_append_left _ (List.mem_append_right _ h))) (by decide +kernel))
set_option maxRecDepth 20000 in
theorem gL_isGainSo_X5_partner : GoodIn wsL_isGainSo (wsV RL 102 RX5 yX5_partner wsX5_partner) := goodIn_app (goodIn_of _ (by decide +kernel)) ggL_isGainSo_X5_partner
set_option maxRecDepth 20000 in
theorem ggL_isGainSo_X5_servedIn : GoodIn wsL_isGainSo wsX5_servedIn := goodIn_ca (goodIn_ca (goodIn_r _ [89, 6, 90, 91, 92, 4, 93, 11, 12, 13, 14, 15, 16, 17, 18, 19, 20, 21, 22, 23, 24, 94, 33, 34, 35, 36, 37, 38, 39, 40, 41, 42, 43, 95, 96, 97, 98, 29, 48, 49, 50, 51, 52, 53, 44, 45, 46, 47, 54, 55, 56, 57, 58, 59, 60, 70, 71, 72, 73, 74, 75, 192, 193, 194, 195, 196, 197, 198, 199, 200, 201, 202, 203, 204, 205, 206, 207, 208, 209, 210, 211, 212, 213, 214, 215, 216, 217, 218, 219, 220, 221, 222] (by decide +kernel) (by decide +kernel)) (goodIn_sub (fun _ h => List.mem_cons_of_mem _ (List.mem_append_left _ (List.mem_append_left _ (List.mem_append_right _ h)))) (by decide +kernel))) (goodIn_sub (fun _ h => List.mem_cons_of_mem _ (List.mem_append_left _ (List.mem_append_right _ h))) (by decide +kernel))
set_option maxRecDepth 20000 in
theorem gL_isGainSo_X5_servedIn : GoodIn wsL_isGainSo (wsV RL 89 RX5 yX5_servedIn wsX5_servedIn) := goodIn_app (goodIn_of _ (by decide +kernel)) ggL_isGainSo_X5_servedIn
set_option maxRecDepth 20000 in
theorem ggL_isGainSo_X5_exchange : GoodIn wsL_isGainSo wsX5_exchange := goodIn_ca (goodIn_ca (goodIn_r _ [102, 103, 6, 7, 8, 9, 4, 10, 11, 12, 13, 14, 15, 16, 17, 18, 19, 20, 21, 22, 23, 24, 25, 26, 27, 28, 29, 30, 31, 32, 33, 34, 35, 36, 37, 38, 39, 40, 41, 42, 43, 44, 45, 46, 47, 48, 49, 50, 51, 52, 53, 54, 55, 56, 57, 58, 59, 60, 61, 62, 63, 64, 65, 104, 105, 106, 107, 108, 109, 110, 111, 112, 113, 114, 115, 116, 117, 118, 119, 120, 121, 122, 123, 124, 125, 126, 127, 128, 129, 130, 131, 132, 133, 134, 135, 136, 74, 75, 137, 138, 139, 140, 141, 142, 143, 144, 145, 146, 147, 148, 149, 150, 151, 152, 153, 154, 155, 156, 157, 84, 158, 159, 160, 161, 162, 163, 164, 165, 192, 193, 194, 195, 196, 197, 198, 199, 200, 201, 202, 203, 204, 205, 206, 207, 208, 209, 210, 211, 212, 213, 214, 215, 216, 217, 218, 219, 220, 221, 222, 223, 224, 225] (by decide +kernel) (by decide +kernel)) (goodIn_sub (fun _ h => List.mem_cons_of_mem _ (List.mem_append_left _ (List.mem_append_left _ (List.mem_append_right _ h)))) (by decide +kernel))) (goodIn_sub (fun _ h => List.mem_cons_of_mem _ (List.mem_append_left _ (List.mem_append_right _ h))) (by decide +kernel))
set_option maxRecDepth 20000 in
theorem gL_isGainSo_X5_exchange : GoodIn wsL_isGainSo (wsV RL 58 RX5 yX5_exchange wsX5_exchange) := goodIn_app (goodIn_of _ (by decide +kernel)) ggL_isGainSo_X5_exchange
set_option maxRecDepth 20000 in
theorem ggL_isGainSo_X5_person : GoodIn wsL_isGainSo wsX5_person := goodIn_ca (goodIn_ca (goodIn_r _ [169, 170, 171, 6, 13, 14, 15, 4, 16, 17, 18, 19, 20, 21, 22, 23, 24, 172, 173, 174, 175, 176, 29, 31, 30, 177, 36, 178, 157, 38, 39, 40, 41, 42, 43, 44, 45, 46, 47, 48, 49, 50, 51, 52, 53, 54, 55, 56, 57, 58, 59, 60, 192, 193, 194, 195, 196, 197, 198, 199, 200, 201, 202, 203, 204, 205, 206, 207, 208, 209, 210, 211, 212, 213, 214, 215, 216, 217, 218, 219, 220, 221, 222] (by decide +kernel) (by decide +kernel)) (goodIn_sub (fun _ h => List.mem_cons_of_mem _ (List.mem_append_right _ h)) (by decide +kernel))) (goodIn_sub (fun _ h => List.mem_cons_of_mem _ (List.mem_append_left _ (List.mem_append_right _ h))) (by decide +kernel))
set_option maxRecDepth 20000 in
theorem gL_isGainSo_X5_person : GoodIn wsL_isGainSo (wsV RL 20 RX5 yX5_person wsX5_person) := goodIn_app (goodIn_of _ (by decide +kernel)) ggL_isGainSo_X5_person
set_option maxRecDepth 20000 in
theorem ggL_isGainSo_X5_undo : GoodIn wsL_isGainSo wsX5_undo := goodIn_ca (goodIn_r _ [182, 11, 12, 103, 6, 183, 184, 185, 107, 186, 109, 187, 188, 189, 190, 191, 111, 112, 113, 114, 115, 110, 116, 117, 118, 119, 120, 121, 122, 22, 123, 124, 24, 125, 126, 127, 128, 65, 129, 130, 131, 132, 52, 42, 48, 49, 50, 51, 53, 133, 134, 135, 57, 136, 74, 75, 137, 59, 60, 138, 38, 39, 40, 41, 43, 139, 140, 141, 142, 143, 144, 145, 146, 147, 148, 149, 150, 151, 152, 192, 193, 194, 195, 196, 197, 223, 224, 225, 198, 199, 200, 201, 202, 203, 204, 205, 206, 207, 208, 218, 219, 220, 221, 222, 209, 210, 211, 212, 213, 214, 215, 216, 217] (by decide +kernel) (by decide +kernel)) (goodIn_sub (fun _ h => List.mem_cons_of_mem _ (List.mem_append_left _ (List.mem_append_left _ (List.mem_append_right _ h)))) (by decide +kernel))
set_option maxRecDepth 20000 in
theorem gL_isGainSo_X5_undo : GoodIn wsL_isGainSo (wsV RL 95 RX5 yX5_undo wsX5_undo) := goodIn_app (goodIn_of _ (by decide +kernel)) ggL_isGainSo_X5_undo
theorem dL_isGainSo_0 : decode cL_isGainSo 0 = .ok (.aload_n 0, 1) := by decide +kernel
theorem dL_isGainSo_1 : decode cL_isGainSo 1 = .ok (.iload_n 1, 1) := by decide +kernel
theorem dL_isGainSo_2 : decode cL_isGainSo 2 = .ok (.iload_n 2, 1) := by decide +kernel
theorem dL_isGainSo_3 : decode cL_isGainSo 3 = .ok (.invokevirtual 99, 3) := by decide +kernel
theorem dL_isGainSo_6 : decode cL_isGainSo 6 = .ok (.istore_n 3, 1) := by decide +kernel
theorem dL_isGainSo_7 : decode cL_isGainSo 7 = .ok (.aload_n 0, 1) := by decide +kernel
theorem dL_isGainSo_8 : decode cL_isGainSo 8 = .ok (.iload_n 1, 1) := by decide +kernel
theorem dL_isGainSo_9 : decode cL_isGainSo 9 = .ok (.invokevirtual 102, 3) := by decide +kernel
theorem dL_isGainSo_12 : decode cL_isGainSo 12 = .ok (.istore 4, 2) := by decide +kernel
theorem dL_isGainSo_14 : decode cL_isGainSo 14 = .ok (.aload_n 0, 1) := by decide +kernel
theorem dL_isGainSo_15 : decode cL_isGainSo 15 = .ok (.iload_n 1, 1) := by decide +kernel
theorem dL_isGainSo_16 : decode cL_isGainSo 16 = .ok (.invokevirtual 89, 3) := by decide +kernel
theorem dL_isGainSo_19 : decode cL_isGainSo 19 = .ok (.istore 5, 2) := by decide +kernel
theorem dL_isGainSo_21 : decode cL_isGainSo 21 = .ok (.aload_n 0, 1) := by decide +kernel
theorem dL_isGainSo_22 : decode cL_isGainSo 22 = .ok (.iload_n 1, 1) := by decide +kernel
theorem dL_isGainSo_23 : decode cL_isGainSo 23 = .ok (.iload_n 2, 1) := by decide +kernel
theorem dL_isGainSo_24 : decode cL_isGainSo 24 = .ok (.invokevirtual 58, 3) := by decide +kernel
theorem dL_isGainSo_27 : decode cL_isGainSo 27 = .ok (.istore 6, 2) := by decide +kernel
theorem dL_isGainSo_29 : decode cL_isGainSo 29 = .ok (.iload_n 3, 1) := by decide +kernel
theorem dL_isGainSo_30 : decode cL_isGainSo 30 = .ok (.iload 5, 2) := by decide +kernel
theorem dL_isGainSo_32 : decode cL_isGainSo 32 = .ok (.aload_n 0, 1) := by decide +kernel
theorem dL_isGainSo_33 : decode cL_isGainSo 33 = .ok (.iload_n 1, 1) := by decide +kernel
theorem dL_isGainSo_34 : decode cL_isGainSo 34 = .ok (.invokevirtual 89, 3) := by decide +kernel
theorem dL_isGainSo_37 : decode cL_isGainSo 37 = .ok (.isub, 1) := by decide +kernel
theorem dL_isGainSo_38 : decode cL_isGainSo 38 = .ok (.iload 6, 2) := by decide +kernel
theorem dL_isGainSo_40 : decode cL_isGainSo 40 = .ok (.isub, 1) := by decide +kernel
theorem dL_isGainSo_41 : decode cL_isGainSo 41 = .ok (.if_icmp .ne 23, 3) := by decide +kernel
theorem dL_isGainSo_44 : decode cL_isGainSo 44 = .ok (.aload_n 0, 1) := by decide +kernel
theorem dL_isGainSo_45 : decode cL_isGainSo 45 = .ok (.iload_n 1, 1) := by decide +kernel
theorem dL_isGainSo_46 : decode cL_isGainSo 46 = .ok (.iconst 4, 1) := by decide +kernel
theorem dL_isGainSo_47 : decode cL_isGainSo 47 = .ok (.invokevirtual 20, 3) := by decide +kernel
theorem dL_isGainSo_50 : decode cL_isGainSo 50 = .ok (.aload_n 0, 1) := by decide +kernel
theorem dL_isGainSo_51 : decode cL_isGainSo 51 = .ok (.iload_n 1, 1) := by decide +kernel
theorem dL_isGainSo_52 : decode cL_isGainSo 52 = .ok (.iconst 3, 1) := by decide +kernel
theorem dL_isGainSo_53 : decode cL_isGainSo 53 = .ok (.invokevirtual 20, 3) := by decide +kernel
theorem dL_isGainSo_56 : decode cL_isGainSo 56 = .ok (.iadd, 1) := by decide +kernel
theorem dL_isGainSo_57 : decode cL_isGainSo 57 = .ok (.ifCond .lt 7, 3) := by decide +kernel
theorem dL_isGainSo_60 : decode cL_isGainSo 60 = .ok (.iconst 1, 1) := by decide +kernel
theorem dL_isGainSo_61 : decode cL_isGainSo 61 = .ok (.goto 4, 3) := by decide +kernel
theorem dL_isGainSo_64 : decode cL_isGainSo 64 = .ok (.iconst 0, 1) := by decide +kernel
theorem dL_isGainSo_65 : decode cL_isGainSo 65 = .ok (.istore 7, 2) := by decide +kernel
theorem dL_isGainSo_67 : decode cL_isGainSo 67 = .ok (.aload_n 0, 1) := by decide +kernel
theorem dL_isGainSo_68 : decode cL_isGainSo 68 = .ok (.invokevirtual 95, 3) := by decide +kernel
theorem dL_isGainSo_71 : decode cL_isGainSo 71 = .ok (.pop, 1) := by decide +kernel
theorem dL_isGainSo_72 : decode cL_isGainSo 72 = .ok (.iload 7, 2) := by decide +kernel
theorem dL_isGainSo_74 : decode cL_isGainSo 74 = .ok (.ifCond .eq 40, 3) := by decide +kernel
theorem dL_isGainSo_77 : decode cL_isGainSo 77 = .ok (.iload 4, 2) := by decide +kernel
theorem dL_isGainSo_79 : decode cL_isGainSo 79 = .ok (.ifCond .lt 35, 3) := by decide +kernel
theorem dL_isGainSo_82 : decode cL_isGainSo 82 = .ok (.aload_n 0, 1) := by decide +kernel
theorem dL_isGainSo_83 : decode cL_isGainSo 83 = .ok (.iload_n 1, 1) := by decide +kernel
theorem dL_isGainSo_84 : decode cL_isGainSo 84 = .ok (.iload 4, 2) := by decide +kernel
theorem dL_isGainSo_86 : decode cL_isGainSo 86 = .ok (.invokevirtual 99, 3) := by decide +kernel
theorem dL_isGainSo_89 : decode cL_isGainSo 89 = .ok (.iload_n 3, 1) := by decide +kernel
theorem dL_isGainSo_90 : decode cL_isGainSo 90 = .ok (.if_icmp .lt 24, 3) := by decide +kernel
theorem dL_isGainSo_93 : decode cL_isGainSo 93 = .ok (.aload_n 0, 1) := by decide +kernel
theorem dL_isGainSo_94 : decode cL_isGainSo 94 = .ok (.iload_n 1, 1) := by decide +kernel
theorem dL_isGainSo_95 : decode cL_isGainSo 95 = .ok (.iload 4, 2) := by decide +kernel
theorem dL_isGainSo_97 : decode cL_isGainSo 97 = .ok (.invokevirtual 99, 3) := by decide +kernel
theorem dL_isGainSo_100 : decode cL_isGainSo 100 = .ok (.iload_n 3, 1) := by decide +kernel
theorem dL_isGainSo_101 : decode cL_isGainSo 101 = .ok (.if_icmp .gt 9, 3) := by decide +kernel
theorem dL_isGainSo_104 : decode cL_isGainSo 104 = .ok (.iload 4, 2) := by decide +kernel
theorem dL_isGainSo_106 : decode cL_isGainSo 106 = .ok (.iload_n 2, 1) := by decide +kernel
theorem dL_isGainSo_107 : decode cL_isGainSo 107 = .ok (.if_icmp .gt 7, 3) := by decide +kernel
theorem dL_isGainSo_110 : decode cL_isGainSo 110 = .ok (.iconst 1, 1) := by decide +kernel
theorem dL_isGainSo_111 : decode cL_isGainSo 111 = .ok (.goto 4, 3) := by decide +kernel
theorem dL_isGainSo_114 : decode cL_isGainSo 114 = .ok (.iconst 0, 1) := by decide +kernel
theorem dL_isGainSo_115 : decode cL_isGainSo 115 = .ok (.ireturn, 1) := by decide +kernel
set_option maxRecDepth 20000 in
theorem ggL_law_X5_init : GoodIn wsL_law wsX5_init := goodIn_r _ [6, 7, 8, 9, 10, 11, 12, 13, 14, 15, 16, 17, 18, 19, 20, 21, 22, 23, 24, 25, 26, 27, 28, 29, 3, 30, 31, 32, 33, 34, 35, 36, 37, 38, 39, 40, 41, 42, 43, 44, 45, 46, 47, 48, 49, 50, 51, 52, 53, 54, 55, 56, 57, 58, 59, 60, 61, 62, 63, 64, 65, 66, 67, 68, 69, 70, 71, 72, 73, 74, 75, 76, 77, 78, 79, 80, 81, 82, 83, 84, 85, 86, 87, 88, 89, 90, 91, 92, 93, 94, 506, 507, 508, 509, 510, 511, 512, 513, 514, 515, 516, 500, 501, 502, 503, 504, 505, 517, 518, 519, 520, 521, 522, 523, 524, 525, 526, 527, 528, 529, 530, 531, 532, 533, 534, 535, 536] (by decide +kernel) (by decide +kernel)
set_option maxRecDepth 20000 in
theorem gL_law_X5_init : GoodIn wsL_law (wsX5_init) := ggL_law_X5_init
set_option maxRecDepth 20000 in
theorem ggL_law_L_cell : GoodIn wsL_law wsL_cell := goodIn_r _ [98] (by decide +kernel) (by decide +kernel)
set_option maxRecDepth 20000 in
theorem gL_law_L_cell : GoodIn wsL_law (va_wsS RL 106 yL_cell wsL_cell) := goodIn_app (goodIn_of _ (by decide +kernel)) ggL_law_L_cell
set_option maxRecDepth 20000 in
theorem ggL_law_L_copy : GoodIn wsL_law wsL_copy := goodIn_r _ [101] (by decide +kernel) (by decide +kernel)
set_option maxRecDepth 20000 in
theorem gL_law_L_copy : GoodIn wsL_law (va_wsS RL 110 yL_copy wsL_copy) := goodIn_app (goodIn_of _ (by decide +kernel)) ggL_law_L_copy
