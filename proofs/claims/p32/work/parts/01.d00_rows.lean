theorem dL_cell_0 : decode cL_cell 0 = .ok (.iload_n 1, 1) := by decide +kernel
theorem dL_cell_1 : decode cL_cell 1 = .ok (.aload_n 0, 1) := by decide +kernel
theorem dL_cell_2 : decode cL_cell 2 = .ok (.arraylength, 1) := by decide +kernel
theorem dL_cell_3 : decode cL_cell 3 = .ok (.if_icmp .ge 9, 3) := by decide +kernel
theorem dL_cell_6 : decode cL_cell 6 = .ok (.aload_n 0, 1) := by decide +kernel
theorem dL_cell_7 : decode cL_cell 7 = .ok (.iload_n 1, 1) := by decide +kernel
theorem dL_cell_8 : decode cL_cell 8 = .ok (.iaload, 1) := by decide +kernel
theorem dL_cell_9 : decode cL_cell 9 = .ok (.goto 15, 3) := by decide +kernel
theorem dL_cell_12 : decode cL_cell 12 = .ok (.sipush 7919, 3) := by decide +kernel
theorem dL_cell_15 : decode cL_cell 15 = .ok (.iload_n 1, 1) := by decide +kernel
theorem dL_cell_16 : decode cL_cell 16 = .ok (.iconst 3, 1) := by decide +kernel
theorem dL_cell_17 : decode cL_cell 17 = .ok (.iadd, 1) := by decide +kernel
theorem dL_cell_18 : decode cL_cell 18 = .ok (.imul, 1) := by decide +kernel
theorem dL_cell_19 : decode cL_cell 19 = .ok (.iload_n 1, 1) := by decide +kernel
theorem dL_cell_20 : decode cL_cell 20 = .ok (.bipush 11, 2) := by decide +kernel
theorem dL_cell_22 : decode cL_cell 22 = .ok (.iadd, 1) := by decide +kernel
theorem dL_cell_23 : decode cL_cell 23 = .ok (.imul, 1) := by decide +kernel
theorem dL_cell_24 : decode cL_cell 24 = .ok (.ireturn, 1) := by decide +kernel
theorem dL_low_0 : decode cL_low 0 = .ok (.iload_n 0, 1) := by decide +kernel
theorem dL_low_1 : decode cL_low 1 = .ok (.ldc 7, 2) := by decide +kernel
theorem dL_low_3 : decode cL_low 3 = .ok (.iand, 1) := by decide +kernel
theorem dL_low_4 : decode cL_low 4 = .ok (.iload_n 1, 1) := by decide +kernel
theorem dL_low_5 : decode cL_low 5 = .ok (.irem, 1) := by decide +kernel
theorem dL_low_6 : decode cL_low 6 = .ok (.ireturn, 1) := by decide +kernel
set_option maxRecDepth 20000 in
theorem ggL_tale_X5_about : GoodIn wsL_tale wsX5_about := goodIn_ca (goodIn_r _ [14, 15, 16, 17, 18, 19, 20, 21, 22, 23, 24, 25, 26, 27, 28, 29, 30, 31, 32, 33, 34, 35, 36, 37, 38, 39, 40, 41, 42, 43, 44, 130, 131, 132, 133, 134, 135, 136, 137, 138, 139, 140, 141, 142, 143, 144, 145, 146, 147, 148, 149, 150, 151, 152, 153, 154, 155] (by decide +kernel) (by decide +kernel)) (goodIn_sub (fun _ h => List.mem_cons_of_mem _ (List.mem_append_left _ (List.mem_append_right _ h))) (by decide +kernel))
set_option maxRecDepth 20000 in
theorem gL_tale_X5_about : GoodIn wsL_tale (wsV RL 12 RX5 yX5_about wsX5_about) := goodIn_app (goodIn_of _ (by decide +kernel)) ggL_tale_X5_about
set_option maxRecDepth 20000 in
theorem ggL_tale_X5_person : GoodIn wsL_tale wsX5_person := goodIn_ca (goodIn_ca (goodIn_r _ [48, 15, 16, 17, 49, 50, 51, 13, 52, 53, 54, 55, 56, 57, 21, 58, 25, 59, 60, 61, 62, 63, 64, 65, 44, 66, 33, 67, 68, 34, 35, 36, 37, 38, 39, 69, 70, 71, 72, 73, 74, 75, 76, 77, 78, 79, 80, 81, 82, 83, 84, 85, 130, 131, 132, 133, 134, 135, 136, 137, 138, 139, 140, 141, 142, 143, 144, 145, 146, 147, 148, 149, 150, 151, 152, 153, 154, 155, 156, 157, 158, 159, 160] (by decide +kernel) (by decide +kernel)) (goodIn_sub (fun _ h => List.mem_cons_of_mem _ (List.mem_append_left _ (List.mem_append_right _ h))) (by decide +kernel))) (goodIn_sub (fun _ h => List.mem_cons_of_mem _ (List.mem_append_right _ h)) (by decide +kernel))
set_option maxRecDepth 20000 in
theorem gL_tale_X5_person : GoodIn wsL_tale (wsV RL 20 RX5 yX5_person wsX5_person) := goodIn_app (goodIn_of _ (by decide +kernel)) ggL_tale_X5_person
set_option maxRecDepth 20000 in
theorem ggL_tale_X5_line : GoodIn wsL_tale wsX5_line := goodIn_ca (goodIn_ca (goodIn_r _ [89, 15, 16, 17, 90, 91, 92, 13, 93, 53, 54, 94, 95, 96, 21, 97, 24, 98, 99, 100, 101, 102, 103, 104, 105, 73, 74, 75, 76, 77, 78, 106, 107, 108, 109, 65, 110, 111, 112, 82, 113, 85, 114, 115, 116, 117, 84, 34, 35, 36, 37, 38, 39, 130, 131, 132, 133, 134, 135, 136, 137, 138, 139, 140, 141, 142, 143, 144, 145, 146, 156, 157, 158, 159, 160, 147, 148, 149, 150, 151, 152, 153, 154, 155] (by decide +kernel) (by decide +kernel)) (goodIn_sub (fun _ h => List.mem_cons_of_mem _ (List.mem_append_left _ (List.mem_append_right _ h))) (by decide +kernel))) (goodIn_sub (fun _ h => List.mem_cons_of_mem _ (List.mem_append_right _ h)) (by decide +kernel))
set_option maxRecDepth 20000 in
theorem gL_tale_X5_line : GoodIn wsL_tale (wsV RL 28 RX5 yX5_line wsX5_line) := goodIn_app (goodIn_of _ (by decide +kernel)) ggL_tale_X5_line
set_option maxRecDepth 20000 in
theorem ggL_tale_X5_setting : GoodIn wsL_tale wsX5_setting := goodIn_ca (goodIn_r _ [121, 17, 122, 123, 13, 124, 15, 16, 125, 126, 127, 21, 128, 129, 130, 131, 132, 133, 134, 135, 136, 137, 138, 139, 140, 141, 142, 143, 144, 145, 146] (by decide +kernel) (by decide +kernel)) (goodIn_sub (fun _ h => List.mem_cons_of_mem _ (List.mem_append_left _ (List.mem_append_right _ h))) (by decide +kernel))
set_option maxRecDepth 20000 in
theorem gL_tale_X5_setting : GoodIn wsL_tale (wsV RL 33 RX5 yX5_setting wsX5_setting) := goodIn_app (goodIn_of _ (by decide +kernel)) ggL_tale_X5_setting
theorem dL_tale_0 : decode cL_tale 0 = .ok (.ldc2_w 8, 3) := by decide +kernel
theorem dL_tale_3 : decode cL_tale 3 = .ok (.lstore_n 1, 1) := by decide +kernel
theorem dL_tale_4 : decode cL_tale 4 = .ok (.iconst 0, 1) := by decide +kernel
theorem dL_tale_5 : decode cL_tale 5 = .ok (.istore_n 3, 1) := by decide +kernel
theorem dL_tale_6 : decode cL_tale 6 = .ok (.iload_n 3, 1) := by decide +kernel
theorem dL_tale_7 : decode cL_tale 7 = .ok (.bipush 10, 2) := by decide +kernel
theorem dL_tale_9 : decode cL_tale 9 = .ok (.if_icmp .ge 22, 3) := by decide +kernel
theorem dL_tale_12 : decode cL_tale 12 = .ok (.lload_n 1, 1) := by decide +kernel
theorem dL_tale_13 : decode cL_tale 13 = .ok (.ldc2_w 10, 3) := by decide +kernel
theorem dL_tale_16 : decode cL_tale 16 = .ok (.lmul, 1) := by decide +kernel
theorem dL_tale_17 : decode cL_tale 17 = .ok (.aload_n 0, 1) := by decide +kernel
theorem dL_tale_18 : decode cL_tale 18 = .ok (.iload_n 3, 1) := by decide +kernel
theorem dL_tale_19 : decode cL_tale 19 = .ok (.invokevirtual 12, 3) := by decide +kernel
theorem dL_tale_22 : decode cL_tale 22 = .ok (.i2l, 1) := by decide +kernel
theorem dL_tale_23 : decode cL_tale 23 = .ok (.ladd, 1) := by decide +kernel
theorem dL_tale_24 : decode cL_tale 24 = .ok (.lstore_n 1, 1) := by decide +kernel
theorem dL_tale_25 : decode cL_tale 25 = .ok (.iinc 3 1, 3) := by decide +kernel
theorem dL_tale_28 : decode cL_tale 28 = .ok (.goto (-22), 3) := by decide +kernel
theorem dL_tale_31 : decode cL_tale 31 = .ok (.iconst 0, 1) := by decide +kernel
theorem dL_tale_32 : decode cL_tale 32 = .ok (.istore_n 3, 1) := by decide +kernel
theorem dL_tale_33 : decode cL_tale 33 = .ok (.iload_n 3, 1) := by decide +kernel
theorem dL_tale_34 : decode cL_tale 34 = .ok (.aload_n 0, 1) := by decide +kernel
theorem dL_tale_35 : decode cL_tale 35 = .ok (.iconst 2, 1) := by decide +kernel
theorem dL_tale_36 : decode cL_tale 36 = .ok (.invokevirtual 12, 3) := by decide +kernel
theorem dL_tale_39 : decode cL_tale 39 = .ok (.if_icmp .ge 40, 3) := by decide +kernel
theorem dL_tale_42 : decode cL_tale 42 = .ok (.iconst 1, 1) := by decide +kernel
theorem dL_tale_43 : decode cL_tale 43 = .ok (.istore 4, 2) := by decide +kernel
theorem dL_tale_45 : decode cL_tale 45 = .ok (.iload 4, 2) := by decide +kernel
theorem dL_tale_47 : decode cL_tale 47 = .ok (.bipush 9, 2) := by decide +kernel
theorem dL_tale_49 : decode cL_tale 49 = .ok (.if_icmp .ge 24, 3) := by decide +kernel
theorem dL_tale_52 : decode cL_tale 52 = .ok (.lload_n 1, 1) := by decide +kernel
theorem dL_tale_53 : decode cL_tale 53 = .ok (.ldc2_w 18, 3) := by decide +kernel
theorem dL_tale_56 : decode cL_tale 56 = .ok (.lmul, 1) := by decide +kernel
theorem dL_tale_57 : decode cL_tale 57 = .ok (.aload_n 0, 1) := by decide +kernel
theorem dL_tale_58 : decode cL_tale 58 = .ok (.iload_n 3, 1) := by decide +kernel
theorem dL_tale_59 : decode cL_tale 59 = .ok (.iload 4, 2) := by decide +kernel
theorem dL_tale_61 : decode cL_tale 61 = .ok (.invokevirtual 20, 3) := by decide +kernel
theorem dL_tale_64 : decode cL_tale 64 = .ok (.i2l, 1) := by decide +kernel
theorem dL_tale_65 : decode cL_tale 65 = .ok (.ladd, 1) := by decide +kernel
theorem dL_tale_66 : decode cL_tale 66 = .ok (.lstore_n 1, 1) := by decide +kernel
theorem dL_tale_67 : decode cL_tale 67 = .ok (.iinc 4 1, 3) := by decide +kernel
theorem dL_tale_70 : decode cL_tale 70 = .ok (.goto (-25), 3) := by decide +kernel
theorem dL_tale_73 : decode cL_tale 73 = .ok (.iinc 3 1, 3) := by decide +kernel
theorem dL_tale_76 : decode cL_tale 76 = .ok (.goto (-43), 3) := by decide +kernel
theorem dL_tale_79 : decode cL_tale 79 = .ok (.iconst 0, 1) := by decide +kernel
theorem dL_tale_80 : decode cL_tale 80 = .ok (.istore_n 3, 1) := by decide +kernel
theorem dL_tale_81 : decode cL_tale 81 = .ok (.iload_n 3, 1) := by decide +kernel
theorem dL_tale_82 : decode cL_tale 82 = .ok (.aload_n 0, 1) := by decide +kernel
theorem dL_tale_83 : decode cL_tale 83 = .ok (.iconst 1, 1) := by decide +kernel
theorem dL_tale_84 : decode cL_tale 84 = .ok (.invokevirtual 12, 3) := by decide +kernel
theorem dL_tale_87 : decode cL_tale 87 = .ok (.if_icmp .ge 35, 3) := by decide +kernel
theorem dL_tale_90 : decode cL_tale 90 = .ok (.lload_n 1, 1) := by decide +kernel
theorem dL_tale_91 : decode cL_tale 91 = .ok (.ldc2_w 24, 3) := by decide +kernel
theorem dL_tale_94 : decode cL_tale 94 = .ok (.lmul, 1) := by decide +kernel
theorem dL_tale_95 : decode cL_tale 95 = .ok (.ldc2_w 26, 3) := by decide +kernel
theorem dL_tale_98 : decode cL_tale 98 = .ok (.aload_n 0, 1) := by decide +kernel
theorem dL_tale_99 : decode cL_tale 99 = .ok (.iload_n 3, 1) := by decide +kernel
theorem dL_tale_100 : decode cL_tale 100 = .ok (.iconst 2, 1) := by decide +kernel
theorem dL_tale_101 : decode cL_tale 101 = .ok (.invokevirtual 28, 3) := by decide +kernel
theorem dL_tale_104 : decode cL_tale 104 = .ok (.i2l, 1) := by decide +kernel
theorem dL_tale_105 : decode cL_tale 105 = .ok (.lmul, 1) := by decide +kernel
theorem dL_tale_106 : decode cL_tale 106 = .ok (.ladd, 1) := by decide +kernel
theorem dL_tale_107 : decode cL_tale 107 = .ok (.aload_n 0, 1) := by decide +kernel
theorem dL_tale_108 : decode cL_tale 108 = .ok (.iload_n 3, 1) := by decide +kernel
theorem dL_tale_109 : decode cL_tale 109 = .ok (.iconst 3, 1) := by decide +kernel
theorem dL_tale_110 : decode cL_tale 110 = .ok (.invokevirtual 28, 3) := by decide +kernel
theorem dL_tale_113 : decode cL_tale 113 = .ok (.i2l, 1) := by decide +kernel
theorem dL_tale_114 : decode cL_tale 114 = .ok (.ladd, 1) := by decide +kernel
theorem dL_tale_115 : decode cL_tale 115 = .ok (.lstore_n 1, 1) := by decide +kernel
theorem dL_tale_116 : decode cL_tale 116 = .ok (.iinc 3 1, 3) := by decide +kernel
theorem dL_tale_119 : decode cL_tale 119 = .ok (.goto (-38), 3) := by decide +kernel
theorem dL_tale_122 : decode cL_tale 122 = .ok (.lload_n 1, 1) := by decide +kernel
theorem dL_tale_123 : decode cL_tale 123 = .ok (.ldc2_w 31, 3) := by decide +kernel
theorem dL_tale_126 : decode cL_tale 126 = .ok (.lmul, 1) := by decide +kernel
theorem dL_tale_127 : decode cL_tale 127 = .ok (.aload_n 0, 1) := by decide +kernel
theorem dL_tale_128 : decode cL_tale 128 = .ok (.iconst 0, 1) := by decide +kernel
theorem dL_tale_129 : decode cL_tale 129 = .ok (.invokevirtual 33, 3) := by decide +kernel
theorem dL_tale_132 : decode cL_tale 132 = .ok (.i2l, 1) := by decide +kernel
theorem dL_tale_133 : decode cL_tale 133 = .ok (.ladd, 1) := by decide +kernel
theorem dL_tale_134 : decode cL_tale 134 = .ok (.ldc2_w 36, 3) := by decide +kernel
theorem dL_tale_137 : decode cL_tale 137 = .ok (.aload_n 0, 1) := by decide +kernel
theorem dL_tale_138 : decode cL_tale 138 = .ok (.iconst 1, 1) := by decide +kernel
theorem dL_tale_139 : decode cL_tale 139 = .ok (.invokevirtual 33, 3) := by decide +kernel
theorem dL_tale_142 : decode cL_tale 142 = .ok (.i2l, 1) := by decide +kernel
theorem dL_tale_143 : decode cL_tale 143 = .ok (.lmul, 1) := by decide +kernel
theorem dL_tale_144 : decode cL_tale 144 = .ok (.ladd, 1) := by decide +kernel
theorem dL_tale_145 : decode cL_tale 145 = .ok (.ldc2_w 38, 3) := by decide +kernel
theorem dL_tale_148 : decode cL_tale 148 = .ok (.aload_n 0, 1) := by decide +kernel
theorem dL_tale_149 : decode cL_tale 149 = .ok (.iconst 2, 1) := by decide +kernel
theorem dL_tale_150 : decode cL_tale 150 = .ok (.invokevirtual 33, 3) := by decide +kernel
theorem dL_tale_153 : decode cL_tale 153 = .ok (.i2l, 1) := by decide +kernel
theorem dL_tale_154 : decode cL_tale 154 = .ok (.lmul, 1) := by decide +kernel
theorem dL_tale_155 : decode cL_tale 155 = .ok (.ladd, 1) := by decide +kernel
theorem dL_tale_156 : decode cL_tale 156 = .ok (.ldc2_w 40, 3) := by decide +kernel
theorem dL_tale_159 : decode cL_tale 159 = .ok (.aload_n 0, 1) := by decide +kernel
theorem dL_tale_160 : decode cL_tale 160 = .ok (.iconst 3, 1) := by decide +kernel
theorem dL_tale_161 : decode cL_tale 161 = .ok (.invokevirtual 33, 3) := by decide +kernel
theorem dL_tale_164 : decode cL_tale 164 = .ok (.i2l, 1) := by decide +kernel
theorem dL_tale_165 : decode cL_tale 165 = .ok (.lmul, 1) := by decide +kernel
theorem dL_tale_166 : decode cL_tale 166 = .ok (.ladd, 1) := by decide +kernel
theorem dL_tale_167 : decode cL_tale 167 = .ok (.lreturn, 1) := by decide +kernel
set_option maxRecDepth 20000 in
theorem ggL_isStanding_X5_about : GoodIn wsL_isStanding wsX5_about := goodIn_ca (goodIn_r _ [5, 6, 7, 8, 9, 10, 11, 12, 13, 14, 15, 16, 17, 18, 19, 20, 21, 22, 23, 24, 25, 26, 27, 28, 29, 30, 31, 32, 33, 34, 35, 77, 78, 79, 80, 81, 82, 83, 84, 85, 86, 87, 88, 89, 90, 91, 92, 93, 94, 95, 96, 97, 98, 99, 100, 101, 102] (by decide +kernel) (by decide +kernel)) (goodIn_sub (fun _ h => List.mem_cons_of_mem _ (List.mem_append_left _ (List.mem_append_right _ h))) (by decide +kernel))
set_option maxRecDepth 20000 in
theorem gL_isStanding_X5_about : GoodIn wsL_isStanding (wsV RL 12 RX5 yX5_about wsX5_about) := goodIn_app (goodIn_of _ (by decide +kernel)) ggL_isStanding_X5_about
set_option maxRecDepth 20000 in
theorem ggL_isStanding_X5_person : GoodIn wsL_isStanding wsX5_person := goodIn_ca (goodIn_ca (goodIn_r _ [39, 6, 7, 8, 40, 41, 42, 4, 43, 44, 45, 46, 47, 48, 12, 49, 16, 50, 51, 52, 53, 54, 55, 56, 35, 57, 24, 58, 59, 25, 26, 27, 28, 29, 30, 60, 61, 62, 63, 64, 65, 66, 67, 68, 69, 70, 71, 72, 73, 74, 75, 76, 77, 78, 79, 80, 81, 82, 83, 84, 85, 86, 87, 88, 89, 90, 91, 92, 93, 94, 95, 96, 97, 98, 99, 100, 101, 102, 103, 104, 105, 106, 107] (by decide +kernel) (by decide +kernel)) (goodIn_sub (fun _ h => List.mem_cons_of_mem _ (List.mem_append_left _ (List.mem_append_right _ h))) (by decide +kernel))) (goodIn_sub (fun _ h => List.mem_cons_of_mem _ (List.mem_append_right _ h)) (by decide +kernel))
set_option maxRecDepth 20000 in
theorem gL_isStanding_X5_person : GoodIn wsL_isStanding (wsV RL 20 RX5 yX5_person wsX5_person) := goodIn_app (goodIn_of _ (by decide +kernel)) ggL_isStanding_X5_person
theorem dL_isStanding_0 : decode cL_isStanding 0 = .ok (.iload_n 1, 1) := by decide +kernel
theorem dL_isStanding_1 : decode cL_isStanding 1 = .ok (.aload_n 0, 1) := by decide +kernel
theorem dL_isStanding_2 : decode cL_isStanding 2 = .ok (.iconst 2, 1) := by decide +kernel
theorem dL_isStanding_3 : decode cL_isStanding 3 = .ok (.invokevirtual 12, 3) := by decide +kernel
theorem dL_isStanding_6 : decode cL_isStanding 6 = .ok (.if_icmp .ge 17, 3) := by decide +kernel
theorem dL_isStanding_9 : decode cL_isStanding 9 = .ok (.aload_n 0, 1) := by decide +kernel
theorem dL_isStanding_10 : decode cL_isStanding 10 = .ok (.iload_n 1, 1) := by decide +kernel
theorem dL_isStanding_11 : decode cL_isStanding 11 = .ok (.bipush 6, 2) := by decide +kernel
theorem dL_isStanding_13 : decode cL_isStanding 13 = .ok (.invokevirtual 20, 3) := by decide +kernel
theorem dL_isStanding_16 : decode cL_isStanding 16 = .ok (.ifCond .ne 7, 3) := by decide +kernel
theorem dL_isStanding_19 : decode cL_isStanding 19 = .ok (.iconst 1, 1) := by decide +kernel
theorem dL_isStanding_20 : decode cL_isStanding 20 = .ok (.goto 4, 3) := by decide +kernel
theorem dL_isStanding_23 : decode cL_isStanding 23 = .ok (.iconst 0, 1) := by decide +kernel
theorem dL_isStanding_24 : decode cL_isStanding 24 = .ok (.ireturn, 1) := by decide +kernel
set_option maxRecDepth 20000 in
theorem ggL_mayExchange_L_isStanding : GoodIn wsL_mayExchange wsL_isStanding := goodIn_ca (goodIn_ca (goodIn_r _ [4, 5, 6, 7, 8, 9, 10, 11, 12, 13, 14, 15, 16, 17, 18, 19, 20, 21, 22, 23, 24, 25, 26, 27, 28, 29, 30, 31, 32, 33, 34, 35, 36, 37, 38, 39, 40, 41, 42, 43, 44, 45, 46, 47, 48, 49, 50, 51, 52, 53, 54, 55, 56, 57, 58, 59, 60, 61, 62, 63, 64, 65, 66, 67, 68, 69, 70, 71, 72, 73, 74, 75, 76, 77, 78, 79, 80, 93, 94, 95, 96, 97, 98, 99, 100, 101, 102, 103, 104, 105, 106, 107, 108, 109, 110, 111, 112, 113, 114, 115, 116, 117, 118, 119, 120, 121, 122, 123] (by decide +kernel) (by decide +kernel)) (goodIn_sub (fun _ h => List.mem_cons_of_mem _ (List.mem_append_left _ (List.mem_append_right _ h))) (by decide +kernel))) (goodIn_sub (fun _ h => List.mem_cons_of_mem _ (List.mem_append_right _ h)) (by decide +kernel))
set_option maxRecDepth 20000 in
theorem gL_mayExchange_L_isStanding : GoodIn wsL_mayExchange (va_wsS RL 42 yL_isStanding wsL_isStanding) := goodIn_app (goodIn_of _ (by decide +kernel)) ggL_mayExchange_L_isStanding
set_option maxRecDepth 20000 in
theorem ggL_mayExchange_X5_person : GoodIn wsL_mayExchange wsX5_person := goodIn_ca (goodIn_ca (goodIn_r _ [43, 10, 11, 12, 44, 45, 46, 8, 47, 48, 49, 50, 51, 52, 16, 53, 20, 54, 55, 56, 57, 58, 59, 60, 39, 61, 28, 62, 63, 29, 30, 31, 32, 33, 34, 64, 65, 66, 67, 68, 69, 70, 71, 72, 73, 74, 75, 76, 77, 78, 79, 80, 93, 94, 95, 96, 97, 98, 99, 100, 101, 102, 103, 104, 105, 106, 107, 108, 109, 110, 111, 112, 113, 114, 115, 116, 117, 118, 119, 120, 121, 122, 123] (by decide +kernel) (by decide +kernel)) (goodIn_sub (fun _ h => List.mem_cons_of_mem _ (List.mem_append_left _ (List.mem_append_right _ h))) (by decide +kernel))) (goodIn_sub (fun _ h => List.mem_cons_of_mem _ (List.mem_append_right _ h)) (by decide +kernel))
set_option maxRecDepth 20000 in
theorem gL_mayExchange_X5_person : GoodIn wsL_mayExchange (wsV RL 20 RX5 yX5_person wsX5_person) := goodIn_app (goodIn_of _ (by decide +kernel)) ggL_mayExchange_X5_person
set_option maxRecDepth 20000 in
theorem ggL_mayExchange_X5_setting : GoodIn wsL_mayExchange wsX5_setting := goodIn_ca (goodIn_r _ [84, 12, 85, 86, 8, 87, 10, 11, 88, 89, 90, 16, 91, 92, 93, 94, 95, 96, 97, 98, 99, 100, 101, 102, 103, 104, 105, 106, 107, 108, 109] (by decide +kernel) (by decide +kernel)) (goodIn_sub (fun _ h => List.mem_cons_of_mem _ (List.mem_append_left _ (List.mem_append_right _ h))) (by decide +kernel))
set_option maxRecDepth 20000 in
theorem gL_mayExchange_X5_setting : GoodIn wsL_mayExchange (wsV RL 33 RX5 yX5_setting wsX5_setting) := goodIn_app (goodIn_of _ (by decide +kernel)) ggL_mayExchange_X5_setting
theorem dL_mayExchange_0 : decode cL_mayExchange 0 = .ok (.aload_n 0, 1) := by decide +kernel
theorem dL_mayExchange_1 : decode cL_mayExchange 1 = .ok (.iload_n 1, 1) := by decide +kernel
theorem dL_mayExchange_2 : decode cL_mayExchange 2 = .ok (.invokestatic 42, 3) := by decide +kernel
theorem dL_mayExchange_5 : decode cL_mayExchange 5 = .ok (.ifCond .eq 26, 3) := by decide +kernel
theorem dL_mayExchange_8 : decode cL_mayExchange 8 = .ok (.aload_n 0, 1) := by decide +kernel
theorem dL_mayExchange_9 : decode cL_mayExchange 9 = .ok (.iload_n 2, 1) := by decide +kernel
theorem dL_mayExchange_10 : decode cL_mayExchange 10 = .ok (.invokestatic 42, 3) := by decide +kernel
theorem dL_mayExchange_13 : decode cL_mayExchange 13 = .ok (.ifCond .eq 18, 3) := by decide +kernel
theorem dL_mayExchange_16 : decode cL_mayExchange 16 = .ok (.aload_n 0, 1) := by decide +kernel
theorem dL_mayExchange_17 : decode cL_mayExchange 17 = .ok (.iload_n 1, 1) := by decide +kernel
theorem dL_mayExchange_18 : decode cL_mayExchange 18 = .ok (.iconst 1, 1) := by decide +kernel
theorem dL_mayExchange_19 : decode cL_mayExchange 19 = .ok (.invokevirtual 20, 3) := by decide +kernel
theorem dL_mayExchange_22 : decode cL_mayExchange 22 = .ok (.aload_n 0, 1) := by decide +kernel
theorem dL_mayExchange_23 : decode cL_mayExchange 23 = .ok (.iload_n 2, 1) := by decide +kernel
theorem dL_mayExchange_24 : decode cL_mayExchange 24 = .ok (.iconst 1, 1) := by decide +kernel
theorem dL_mayExchange_25 : decode cL_mayExchange 25 = .ok (.invokevirtual 20, 3) := by decide +kernel
theorem dL_mayExchange_28 : decode cL_mayExchange 28 = .ok (.if_icmp .eq 5, 3) := by decide +kernel
theorem dL_mayExchange_31 : decode cL_mayExchange 31 = .ok (.iconst 0, 1) := by decide +kernel
theorem dL_mayExchange_32 : decode cL_mayExchange 32 = .ok (.ireturn, 1) := by decide +kernel
theorem dL_mayExchange_33 : decode cL_mayExchange 33 = .ok (.aload_n 0, 1) := by decide +kernel
theorem dL_mayExchange_34 : decode cL_mayExchange 34 = .ok (.iload_n 1, 1) := by decide +kernel
theorem dL_mayExchange_35 : decode cL_mayExchange 35 = .ok (.iconst 2, 1) := by decide +kernel
theorem dL_mayExchange_36 : decode cL_mayExchange 36 = .ok (.invokevirtual 20, 3) := by decide +kernel
theorem dL_mayExchange_39 : decode cL_mayExchange 39 = .ok (.aload_n 0, 1) := by decide +kernel
theorem dL_mayExchange_40 : decode cL_mayExchange 40 = .ok (.iload_n 2, 1) := by decide +kernel
theorem dL_mayExchange_41 : decode cL_mayExchange 41 = .ok (.iconst 2, 1) := by decide +kernel
theorem dL_mayExchange_42 : decode cL_mayExchange 42 = .ok (.invokevirtual 20, 3) := by decide +kernel
theorem dL_mayExchange_45 : decode cL_mayExchange 45 = .ok (.isub, 1) := by decide +kernel
theorem dL_mayExchange_46 : decode cL_mayExchange 46 = .ok (.istore_n 3, 1) := by decide +kernel
theorem dL_mayExchange_47 : decode cL_mayExchange 47 = .ok (.iload_n 3, 1) := by decide +kernel
theorem dL_mayExchange_48 : decode cL_mayExchange 48 = .ok (.ifCond .le 30, 3) := by decide +kernel
theorem dL_mayExchange_51 : decode cL_mayExchange 51 = .ok (.aload_n 0, 1) := by decide +kernel
theorem dL_mayExchange_52 : decode cL_mayExchange 52 = .ok (.iload_n 1, 1) := by decide +kernel
theorem dL_mayExchange_53 : decode cL_mayExchange 53 = .ok (.iconst 4, 1) := by decide +kernel
theorem dL_mayExchange_54 : decode cL_mayExchange 54 = .ok (.invokevirtual 20, 3) := by decide +kernel
theorem dL_mayExchange_57 : decode cL_mayExchange 57 = .ok (.aload_n 0, 1) := by decide +kernel
theorem dL_mayExchange_58 : decode cL_mayExchange 58 = .ok (.iload_n 1, 1) := by decide +kernel
theorem dL_mayExchange_59 : decode cL_mayExchange 59 = .ok (.iconst 3, 1) := by decide +kernel
theorem dL_mayExchange_60 : decode cL_mayExchange 60 = .ok (.invokevirtual 20, 3) := by decide +kernel
theorem dL_mayExchange_63 : decode cL_mayExchange 63 = .ok (.iadd, 1) := by decide +kernel
theorem dL_mayExchange_64 : decode cL_mayExchange 64 = .ok (.iload_n 3, 1) := by decide +kernel
theorem dL_mayExchange_65 : decode cL_mayExchange 65 = .ok (.aload_n 0, 1) := by decide +kernel
theorem dL_mayExchange_66 : decode cL_mayExchange 66 = .ok (.iconst 2, 1) := by decide +kernel
theorem dL_mayExchange_67 : decode cL_mayExchange 67 = .ok (.invokevirtual 33, 3) := by decide +kernel
theorem dL_mayExchange_70 : decode cL_mayExchange 70 = .ok (.imul, 1) := by decide +kernel
theorem dL_mayExchange_71 : decode cL_mayExchange 71 = .ok (.if_icmp .lt 7, 3) := by decide +kernel
theorem dL_mayExchange_74 : decode cL_mayExchange 74 = .ok (.iconst 1, 1) := by decide +kernel
theorem dL_mayExchange_75 : decode cL_mayExchange 75 = .ok (.goto 4, 3) := by decide +kernel
theorem dL_mayExchange_78 : decode cL_mayExchange 78 = .ok (.iconst 0, 1) := by decide +kernel
theorem dL_mayExchange_79 : decode cL_mayExchange 79 = .ok (.ireturn, 1) := by decide +kernel
set_option maxRecDepth 20000 in
theorem ggL_mayJump_L_isStanding : GoodIn wsL_mayJump wsL_isStanding := goodIn_ca (goodIn_ca (goodIn_r _ [4, 5, 6, 7, 8, 9, 10, 11, 12, 13, 14, 15, 16, 17, 18, 19, 20, 21, 22, 23, 24, 25, 26, 27, 28, 29, 30, 31, 32, 33, 34, 35, 36, 37, 38, 39, 40, 41, 42, 43, 44, 45, 46, 47, 48, 49, 50, 51, 52, 53, 54, 55, 56, 57, 58, 59, 60, 61, 62, 63, 64, 65, 66, 67, 68, 69, 70, 71, 72, 73, 74, 75, 76, 77, 78, 79, 80, 81, 82, 83, 84, 85, 86, 87, 88, 89, 90, 91, 92, 93, 94, 95, 96, 97, 98, 99, 100, 101, 102, 103, 104, 105, 106, 107, 108, 109, 110, 111] (by decide +kernel) (by decide +kernel)) (goodIn_sub (fun _ h => List.mem_cons_of_mem _ (List.mem_append_left _ (List.mem_append_right _ h))) (by decide +kernel))) (goodIn_sub (fun _ h => List.mem_cons_of_mem _ (List.mem_append_right _ h)) (by decide +kernel))
set_option maxRecDepth 20000 in
theorem gL_mayJump_L_isStanding : GoodIn wsL_mayJump (va_wsS RL 42 yL_isStanding wsL_isStanding) := goodIn_app (goodIn_of _ (by decide +kernel)) ggL_mayJump_L_isStanding
set_option maxRecDepth 20000 in
theorem ggL_mayJump_X5_person : GoodIn wsL_mayJump wsX5_person := goodIn_ca (goodIn_ca (goodIn_r _ [43, 10, 11, 12, 44, 45, 46, 8, 47, 48, 49, 50, 51, 52, 16, 53, 20, 54, 55, 56, 57, 58, 59, 60, 39, 61, 28, 62, 63, 29, 30, 31, 32, 33, 34, 64, 65, 66, 67, 68, 69, 70, 71, 72, 73, 74, 75, 76, 77, 78, 79, 80, 81, 82, 83, 84, 85, 86, 87, 88, 89, 90, 91, 92, 93, 94, 95, 96, 97, 98, 99, 100, 101, 102, 103, 104, 105, 106, 107, 108, 109, 110, 111] (by decide +kernel) (by decide +kernel)) (goodIn_sub (fun _ h => List.mem_cons_of_mem _ (List.mem_append_left _ (List.mem_append_right _ h))) (by decide +kernel))) (goodIn_sub (fun _ h => List.mem_cons_of_mem _ (List.mem_append_right _ h)) (by decide +kernel))
set_option maxRecDepth 20000 in
theorem gL_mayJump_X5_person : GoodIn wsL_mayJump (wsV RL 20 RX5 yX5_person wsX5_person) := goodIn_app (goodIn_of _ (by decide +kernel)) ggL_mayJump_X5_person
