theorem dL_undo_14 : decode cL_undo 14 = .ok (.iconst 0, 1) := by decide +kernel
theorem dL_undo_15 : decode cL_undo 15 = .ok (.ireturn, 1) := by decide +kernel
set_option maxRecDepth 20000 in
theorem ggL_servedIn_X5_servedIn : GoodIn wsL_servedIn wsX5_servedIn := goodIn_ca (goodIn_ca (goodIn_r _ [7, 8, 9, 10, 11, 6, 12, 13, 14, 15, 16, 17, 18, 19, 20, 21, 22, 23, 24, 25, 26, 27, 28, 29, 30, 31, 32, 33, 34, 35, 36, 37, 38, 39, 40, 41, 42, 43, 44, 45, 46, 47, 48, 49, 50, 51, 52, 53, 54, 55, 56, 57, 58, 59, 60, 61, 62, 63, 64, 65, 66, 67, 68, 69, 70, 71, 72, 73, 74, 75, 76, 77, 78, 79, 80, 81, 82, 83, 84, 85, 86, 87, 88, 89, 90, 91, 92, 93, 94, 95, 96, 97] (by decide +kernel) (by decide +kernel)) (goodIn_sub (fun _ h => List.mem_cons_of_mem _ (List.mem_append_left _ (List.mem_append_right _ h))) (by decide +kernel))) (goodIn_sub (fun _ h => List.mem_cons_of_mem _ (List.mem_append_right _ h)) (by decide +kernel))
set_option maxRecDepth 20000 in
theorem gL_servedIn_X5_servedIn : GoodIn wsL_servedIn (wsV RL 66 RX5 yX5_servedIn wsX5_servedIn) := goodIn_app (goodIn_of _ (by decide +kernel)) ggL_servedIn_X5_servedIn
theorem dL_servedIn_0 : decode cL_servedIn 0 = .ok (.aload_n 2, 1) := by decide +kernel
theorem dL_servedIn_1 : decode cL_servedIn 1 = .ok (.iconst 0, 1) := by decide +kernel
theorem dL_servedIn_2 : decode cL_servedIn 2 = .ok (.aload_n 0, 1) := by decide +kernel
theorem dL_servedIn_3 : decode cL_servedIn 3 = .ok (.iload_n 1, 1) := by decide +kernel
theorem dL_servedIn_4 : decode cL_servedIn 4 = .ok (.invokevirtual 66, 3) := by decide +kernel
theorem dL_servedIn_7 : decode cL_servedIn 7 = .ok (.i2l, 1) := by decide +kernel
theorem dL_servedIn_8 : decode cL_servedIn 8 = .ok (.lastore, 1) := by decide +kernel
theorem dL_servedIn_9 : decode cL_servedIn 9 = .ok (.goto 9, 3) := by decide +kernel
theorem dL_servedIn_12 : decode cL_servedIn 12 = .ok (.astore_n 3, 1) := by decide +kernel
theorem dL_servedIn_13 : decode cL_servedIn 13 = .ok (.iconst 1, 1) := by decide +kernel
theorem dL_servedIn_14 : decode cL_servedIn 14 = .ok (.ireturn, 1) := by decide +kernel
theorem dL_servedIn_15 : decode cL_servedIn 15 = .ok (.astore_n 3, 1) := by decide +kernel
theorem dL_servedIn_16 : decode cL_servedIn 16 = .ok (.iconst 2, 1) := by decide +kernel
theorem dL_servedIn_17 : decode cL_servedIn 17 = .ok (.ireturn, 1) := by decide +kernel
theorem dL_servedIn_18 : decode cL_servedIn 18 = .ok (.iconst 0, 1) := by decide +kernel
theorem dL_servedIn_19 : decode cL_servedIn 19 = .ok (.ireturn, 1) := by decide +kernel
set_option maxRecDepth 20000 in
theorem ggL_willPay_X5_willPay : GoodIn wsL_willPay wsX5_willPay := goodIn_ca (goodIn_r _ [6, 7, 8, 9, 10, 11, 12, 13, 14, 15, 16, 17, 18, 19, 20, 21, 22, 23, 24, 25, 26, 27, 28, 29, 30, 31, 32, 33, 34, 35, 36, 37, 38, 39, 40, 41, 42, 43, 44, 45, 46, 47, 48, 49, 50, 51, 52, 53, 54, 55, 56, 57, 58, 59, 60, 61, 62, 63, 64, 65, 66, 67, 68, 69, 70, 71, 72, 73, 74, 75, 76, 77, 78, 79, 80, 81, 82, 83, 84, 85, 86, 87, 88, 89, 90, 91, 92, 93, 94, 95, 96, 97, 98, 99] (by decide +kernel) (by decide +kernel)) (goodIn_sub (fun _ h => List.mem_cons_of_mem _ (List.mem_append_right _ h)) (by decide +kernel))
set_option maxRecDepth 20000 in
theorem gL_willPay_X5_willPay : GoodIn wsL_willPay (wsV RL 69 RX5 yX5_willPay wsX5_willPay) := goodIn_app (goodIn_of _ (by decide +kernel)) ggL_willPay_X5_willPay
theorem dL_willPay_0 : decode cL_willPay 0 = .ok (.aload_n 2, 1) := by decide +kernel
theorem dL_willPay_1 : decode cL_willPay 1 = .ok (.iconst 0, 1) := by decide +kernel
theorem dL_willPay_2 : decode cL_willPay 2 = .ok (.aload_n 0, 1) := by decide +kernel
theorem dL_willPay_3 : decode cL_willPay 3 = .ok (.iload_n 1, 1) := by decide +kernel
theorem dL_willPay_4 : decode cL_willPay 4 = .ok (.invokevirtual 69, 3) := by decide +kernel
theorem dL_willPay_7 : decode cL_willPay 7 = .ok (.i2l, 1) := by decide +kernel
theorem dL_willPay_8 : decode cL_willPay 8 = .ok (.lastore, 1) := by decide +kernel
theorem dL_willPay_9 : decode cL_willPay 9 = .ok (.goto 6, 3) := by decide +kernel
theorem dL_willPay_12 : decode cL_willPay 12 = .ok (.astore_n 3, 1) := by decide +kernel
theorem dL_willPay_13 : decode cL_willPay 13 = .ok (.iconst 1, 1) := by decide +kernel
theorem dL_willPay_14 : decode cL_willPay 14 = .ok (.ireturn, 1) := by decide +kernel
theorem dL_willPay_15 : decode cL_willPay 15 = .ok (.iconst 0, 1) := by decide +kernel
theorem dL_willPay_16 : decode cL_willPay 16 = .ok (.ireturn, 1) := by decide +kernel
set_option maxRecDepth 20000 in
theorem ggL_gain_X5_gain : GoodIn wsL_gain wsX5_gain := goodIn_ca (goodIn_ca (goodIn_r _ [7, 8, 9, 10, 11, 6, 12, 13, 14, 15, 16, 17, 18, 19, 20, 21, 22, 23, 24, 25, 26, 27, 28, 29, 30, 31, 32, 33, 34, 35, 36, 37, 38, 39, 40, 41, 42, 43, 44, 45, 46, 47, 48, 49, 50, 51, 52, 53, 54, 55, 56, 57, 58, 59, 60, 61, 62, 63, 64, 65, 66, 67, 68, 69, 70, 71, 72, 73, 74, 75, 76, 77, 78, 79, 80, 81, 82, 83, 84, 85, 86, 87, 88, 89, 90, 91, 92, 93, 94, 95, 96, 97, 98, 99, 100, 101, 102, 103, 104, 105, 106, 107, 108] (by decide +kernel) (by decide +kernel)) (goodIn_sub (fun _ h => List.mem_cons_of_mem _ (List.mem_append_left _ (List.mem_append_right _ h))) (by decide +kernel))) (goodIn_sub (fun _ h => List.mem_cons_of_mem _ (List.mem_append_right _ h)) (by decide +kernel))
set_option maxRecDepth 20000 in
theorem gL_gain_X5_gain : GoodIn wsL_gain (wsV RL 72 RX5 yX5_gain wsX5_gain) := goodIn_app (goodIn_of _ (by decide +kernel)) ggL_gain_X5_gain
theorem dL_gain_0 : decode cL_gain 0 = .ok (.aload_n 3, 1) := by decide +kernel
theorem dL_gain_1 : decode cL_gain 1 = .ok (.iconst 0, 1) := by decide +kernel
theorem dL_gain_2 : decode cL_gain 2 = .ok (.aload_n 0, 1) := by decide +kernel
theorem dL_gain_3 : decode cL_gain 3 = .ok (.iload_n 1, 1) := by decide +kernel
theorem dL_gain_4 : decode cL_gain 4 = .ok (.iload_n 2, 1) := by decide +kernel
theorem dL_gain_5 : decode cL_gain 5 = .ok (.invokevirtual 72, 3) := by decide +kernel
theorem dL_gain_8 : decode cL_gain 8 = .ok (.i2l, 1) := by decide +kernel
theorem dL_gain_9 : decode cL_gain 9 = .ok (.lastore, 1) := by decide +kernel
theorem dL_gain_10 : decode cL_gain 10 = .ok (.goto 11, 3) := by decide +kernel
theorem dL_gain_13 : decode cL_gain 13 = .ok (.astore 4, 2) := by decide +kernel
theorem dL_gain_15 : decode cL_gain 15 = .ok (.iconst 1, 1) := by decide +kernel
theorem dL_gain_16 : decode cL_gain 16 = .ok (.ireturn, 1) := by decide +kernel
theorem dL_gain_17 : decode cL_gain 17 = .ok (.astore 4, 2) := by decide +kernel
theorem dL_gain_19 : decode cL_gain 19 = .ok (.iconst 2, 1) := by decide +kernel
theorem dL_gain_20 : decode cL_gain 20 = .ok (.ireturn, 1) := by decide +kernel
theorem dL_gain_21 : decode cL_gain 21 = .ok (.iconst 0, 1) := by decide +kernel
theorem dL_gain_22 : decode cL_gain 22 = .ok (.ireturn, 1) := by decide +kernel
set_option maxRecDepth 20000 in
theorem ggL_partner_X5_partner : GoodIn wsL_partner wsX5_partner := goodIn_ca (goodIn_r _ [6, 7, 8, 9, 10, 5, 11, 12, 13, 14, 15, 16, 17, 18, 19, 20, 21, 22, 23, 24, 25, 26, 27, 28, 29, 30, 31, 32, 33, 34, 35, 36, 37, 38, 39, 40, 41, 42, 43, 44, 45, 46, 47, 48, 49, 50, 51, 52, 53, 54, 55, 56, 57, 58, 59, 60, 61, 62, 63, 64, 65, 66, 67, 68, 69, 70, 71, 72, 73, 74, 75, 76, 77, 78, 79, 80, 81, 82, 83, 84, 85, 86, 87, 88, 89, 90, 91, 92, 93, 94, 95, 96, 97, 98, 99, 100, 101, 102, 103, 104, 105] (by decide +kernel) (by decide +kernel)) (goodIn_sub (fun _ h => List.mem_cons_of_mem _ (List.mem_append_right _ h)) (by decide +kernel))
set_option maxRecDepth 20000 in
theorem gL_partner_X5_partner : GoodIn wsL_partner (wsV RL 75 RX5 yX5_partner wsX5_partner) := goodIn_app (goodIn_of _ (by decide +kernel)) ggL_partner_X5_partner
theorem dL_partner_0 : decode cL_partner 0 = .ok (.aload_n 2, 1) := by decide +kernel
theorem dL_partner_1 : decode cL_partner 1 = .ok (.iconst 0, 1) := by decide +kernel
theorem dL_partner_2 : decode cL_partner 2 = .ok (.aload_n 0, 1) := by decide +kernel
theorem dL_partner_3 : decode cL_partner 3 = .ok (.iload_n 1, 1) := by decide +kernel
theorem dL_partner_4 : decode cL_partner 4 = .ok (.invokevirtual 75, 3) := by decide +kernel
theorem dL_partner_7 : decode cL_partner 7 = .ok (.i2l, 1) := by decide +kernel
theorem dL_partner_8 : decode cL_partner 8 = .ok (.lastore, 1) := by decide +kernel
theorem dL_partner_9 : decode cL_partner 9 = .ok (.goto 6, 3) := by decide +kernel
theorem dL_partner_12 : decode cL_partner 12 = .ok (.astore_n 3, 1) := by decide +kernel
theorem dL_partner_13 : decode cL_partner 13 = .ok (.iconst 1, 1) := by decide +kernel
theorem dL_partner_14 : decode cL_partner 14 = .ok (.ireturn, 1) := by decide +kernel
theorem dL_partner_15 : decode cL_partner 15 = .ok (.iconst 0, 1) := by decide +kernel
theorem dL_partner_16 : decode cL_partner 16 = .ok (.ireturn, 1) := by decide +kernel
set_option maxRecDepth 20000 in
theorem ggL_saved_X5_saved : GoodIn wsL_saved wsX5_saved := goodIn_ca (goodIn_ca (goodIn_ca (goodIn_r _ [8, 9, 10, 11, 12, 7, 13, 14, 15, 16, 17, 18, 19, 20, 21, 22, 23, 24, 25, 26, 27, 28, 29, 30, 31, 32, 33, 34, 35, 36, 37, 38, 39, 40, 41, 42, 43, 44, 45, 46, 47, 48, 49, 50, 51, 52, 53, 54, 55, 56, 57, 58, 59, 60, 61, 62, 63, 64, 65, 66, 67, 68, 69, 70, 71, 72, 73, 74] (by decide +kernel) (by decide +kernel)) (goodIn_sub (fun _ h => List.mem_cons_of_mem _ (List.mem_append_left _ (List.mem_append_left _ (List.mem_append_right _ h)))) (by decide +kernel))) (goodIn_sub (fun _ h => List.mem_cons_of_mem _ (List.mem_append_left _ (List.mem_append_right _ h))) (by decide +kernel))) (goodIn_sub (fun _ h => List.mem_cons_of_mem _ (List.mem_append_right _ h)) (by decide +kernel))
set_option maxRecDepth 20000 in
theorem gL_saved_X5_saved : GoodIn wsL_saved (wsV RL 78 RX5 yX5_saved wsX5_saved) := goodIn_app (goodIn_of _ (by decide +kernel)) ggL_saved_X5_saved
theorem dL_saved_0 : decode cL_saved 0 = .ok (.aload_n 3, 1) := by decide +kernel
theorem dL_saved_1 : decode cL_saved 1 = .ok (.iconst 0, 1) := by decide +kernel
theorem dL_saved_2 : decode cL_saved 2 = .ok (.aload_n 0, 1) := by decide +kernel
theorem dL_saved_3 : decode cL_saved 3 = .ok (.iload_n 1, 1) := by decide +kernel
theorem dL_saved_4 : decode cL_saved 4 = .ok (.iload_n 2, 1) := by decide +kernel
theorem dL_saved_5 : decode cL_saved 5 = .ok (.invokevirtual 78, 3) := by decide +kernel
theorem dL_saved_8 : decode cL_saved 8 = .ok (.i2l, 1) := by decide +kernel
theorem dL_saved_9 : decode cL_saved 9 = .ok (.lastore, 1) := by decide +kernel
theorem dL_saved_10 : decode cL_saved 10 = .ok (.goto 15, 3) := by decide +kernel
theorem dL_saved_13 : decode cL_saved 13 = .ok (.astore 4, 2) := by decide +kernel
theorem dL_saved_15 : decode cL_saved 15 = .ok (.iconst 1, 1) := by decide +kernel
theorem dL_saved_16 : decode cL_saved 16 = .ok (.ireturn, 1) := by decide +kernel
theorem dL_saved_17 : decode cL_saved 17 = .ok (.astore 4, 2) := by decide +kernel
theorem dL_saved_19 : decode cL_saved 19 = .ok (.iconst 2, 1) := by decide +kernel
theorem dL_saved_20 : decode cL_saved 20 = .ok (.ireturn, 1) := by decide +kernel
theorem dL_saved_21 : decode cL_saved 21 = .ok (.astore 4, 2) := by decide +kernel
theorem dL_saved_23 : decode cL_saved 23 = .ok (.iconst 3, 1) := by decide +kernel
theorem dL_saved_24 : decode cL_saved 24 = .ok (.ireturn, 1) := by decide +kernel
theorem dL_saved_25 : decode cL_saved 25 = .ok (.iconst 0, 1) := by decide +kernel
theorem dL_saved_26 : decode cL_saved 26 = .ok (.ireturn, 1) := by decide +kernel
set_option maxRecDepth 20000 in
theorem ggL_runScript_X5_runScript : GoodIn wsL_runScript wsX5_runScript := goodIn_ca (goodIn_r _ [6, 7, 8, 9, 10, 11, 12, 13, 5, 14, 15, 16, 17, 18, 19, 20, 21, 22, 23, 24, 25, 26, 27, 28, 29, 30, 31, 32, 33, 34, 35, 36, 37, 38, 39, 40, 41, 42, 43, 44, 45, 46, 47, 48, 49, 50, 51, 52, 53, 54, 55, 56, 57, 58, 59, 60, 61, 62, 63, 64, 65, 66, 67, 68, 69, 70, 71, 72, 73, 74, 75, 76, 77, 78, 79, 80, 81, 82, 83, 84, 85, 86, 87, 88, 89, 90, 91, 92, 93, 94, 95, 96, 97, 98, 99, 100, 101, 102, 103, 104, 105, 106, 107, 108, 109, 110, 111, 112, 113, 114, 115, 116, 117, 118, 119, 120, 121, 122, 123, 124, 125, 126, 127, 128, 129, 130, 131, 132, 133, 134, 135, 136, 137, 138, 139, 140, 141, 142, 143, 144, 145, 146, 147, 148, 149, 150, 151, 152, 153, 154, 155, 156, 157, 158, 159, 160, 161, 162, 163, 164, 165, 166, 167, 168, 169, 170, 171, 172, 173, 174, 175, 176, 177, 178, 179, 180, 181, 182, 183, 184, 185, 186, 187, 188, 189, 190, 191, 192, 193, 194, 195, 196, 197, 198, 199, 200, 201, 202, 203, 204, 205, 206, 207, 208, 209, 210, 211, 212, 213, 214, 215, 216, 217, 218, 219, 220, 221, 222, 223, 224, 225, 226, 227, 228, 229, 230, 231, 232, 233, 234, 235, 236, 237, 238, 239, 240] (by decide +kernel) (by decide +kernel)) (goodIn_sub (fun _ h => List.mem_cons_of_mem _ (List.mem_append_right _ h)) (by decide +kernel))
set_option maxRecDepth 20000 in
theorem gL_runScript_X5_runScript : GoodIn wsL_runScript (wsV RL 81 RX5 yX5_runScript wsX5_runScript) := goodIn_app (goodIn_of _ (by decide +kernel)) ggL_runScript_X5_runScript
