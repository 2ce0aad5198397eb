theorem dX5_set_1 : decode cX5_set 1 = .ok (.invokestatic 117, 3) := by decide +kernel
theorem dX5_set_4 : decode cX5_set 4 = .ok (.iload_n 2, 1) := by decide +kernel
theorem dX5_set_5 : decode cX5_set 5 = .ok (.getstatic 181, 3) := by decide +kernel
theorem dX5_set_8 : decode cX5_set 8 = .ok (.iload_n 1, 1) := by decide +kernel
theorem dX5_set_9 : decode cX5_set 9 = .ok (.iaload, 1) := by decide +kernel
theorem dX5_set_10 : decode cX5_set 10 = .ok (.if_icmp .lt 12, 3) := by decide +kernel
theorem dX5_set_13 : decode cX5_set 13 = .ok (.iload_n 2, 1) := by decide +kernel
theorem dX5_set_14 : decode cX5_set 14 = .ok (.getstatic 185, 3) := by decide +kernel
theorem dX5_set_17 : decode cX5_set 17 = .ok (.iload_n 1, 1) := by decide +kernel
theorem dX5_set_18 : decode cX5_set 18 = .ok (.iaload, 1) := by decide +kernel
theorem dX5_set_19 : decode cX5_set 19 = .ok (.if_icmp .le 13, 3) := by decide +kernel
theorem dX5_set_22 : decode cX5_set 22 = .ok (.new 48, 3) := by decide +kernel
theorem dX5_set_25 : decode cX5_set 25 = .ok (.dup, 1) := by decide +kernel
theorem dX5_set_26 : decode cX5_set 26 = .ok (.ldc 188, 2) := by decide +kernel
theorem dX5_set_28 : decode cX5_set 28 = .ok (.invokespecial 52, 3) := by decide +kernel
theorem dX5_set_31 : decode cX5_set 31 = .ok (.athrow, 1) := by decide +kernel
theorem dX5_set_32 : decode cX5_set 32 = .ok (.aload_n 0, 1) := by decide +kernel
theorem dX5_set_33 : decode cX5_set 33 = .ok (.getfield 29, 3) := by decide +kernel
theorem dX5_set_36 : decode cX5_set 36 = .ok (.aload_n 0, 1) := by decide +kernel
theorem dX5_set_37 : decode cX5_set 37 = .ok (.getfield 10, 3) := by decide +kernel
theorem dX5_set_40 : decode cX5_set 40 = .ok (.invokevirtual 130, 3) := by decide +kernel
theorem dX5_set_43 : decode cX5_set 43 = .ok (.aload_n 0, 1) := by decide +kernel
theorem dX5_set_44 : decode cX5_set 44 = .ok (.getfield 10, 3) := by decide +kernel
theorem dX5_set_47 : decode cX5_set 47 = .ok (.iload_n 1, 1) := by decide +kernel
theorem dX5_set_48 : decode cX5_set 48 = .ok (.iload_n 2, 1) := by decide +kernel
theorem dX5_set_49 : decode cX5_set 49 = .ok (.invokevirtual 190, 3) := by decide +kernel
theorem dX5_set_52 : decode cX5_set 52 = .ok (.ireturn, 1) := by decide +kernel
set_option maxRecDepth 20000 in
theorem ggX5_undo_X2_isEmpty : GoodIn wsX5_undo wsX2_isEmpty := goodIn_r _ [9, 10, 85, 86, 87] (by decide +kernel) (by decide +kernel)
set_option maxRecDepth 20000 in
theorem gX5_undo_X2_isEmpty : GoodIn wsX5_undo (wsV RX5 193 RX2 yX2_isEmpty wsX2_isEmpty) := goodIn_app (goodIn_of _ (by decide +kernel)) ggX5_undo_X2_isEmpty
set_option maxRecDepth 20000 in
theorem ggX5_undo_X2_takeBack_h : GoodIn wsX5_undo [.code yX2_takeBack cX2_takeBack 2 (some .int)] := goodIn_r _ [14] (by decide +kernel) (by decide +kernel)
set_option maxRecDepth 20000 in
theorem ggX5_undo_X2_takeBack_0 : GoodIn wsX5_undo wsX2_takeBack_r1 := goodIn_r _ [10, 15, 6, 7, 8, 9, 16, 17, 18, 19, 20, 21, 22, 23, 24, 25, 26, 27, 28, 29, 30, 31, 32, 33] (by decide +kernel) (by decide +kernel)
set_option maxRecDepth 20000 in
theorem ggX5_undo_X2_takeBack_1 : GoodIn wsX5_undo wsX2_takeBack_r2 := goodIn_r _ [34, 35, 36, 37, 38, 39, 40, 41, 42, 43, 44, 45, 46, 47, 48, 49, 50, 51, 52, 53, 54, 55, 56, 57] (by decide +kernel) (by decide +kernel)
set_option maxRecDepth 20000 in
theorem ggX5_undo_X2_takeBack_2 : GoodIn wsX5_undo wsX2_takeBack_r3 := goodIn_r _ [58, 59, 60, 61, 62, 63, 64, 65, 66, 67, 68, 69, 70, 71, 72, 73, 74, 75, 76, 77, 78] (by decide +kernel) (by decide +kernel)
set_option maxRecDepth 20000 in
theorem ggX5_undo_X2_takeBack_3 : GoodIn wsX5_undo wsX20 := goodIn_r _ [85, 86, 87] (by decide +kernel) (by decide +kernel)
set_option maxRecDepth 20000 in
theorem ggX5_undo_X2_takeBack_4 : GoodIn wsX5_undo wsX10 := goodIn_r _ [88, 89, 90, 91, 92, 93, 94, 95, 96, 97, 98] (by decide +kernel) (by decide +kernel)
set_option maxRecDepth 20000 in
theorem ggX5_undo_X2_takeBack_5 : GoodIn wsX5_undo wsX30 := goodIn_r _ [99, 100, 101, 102, 103] (by decide +kernel) (by decide +kernel)
set_option maxRecDepth 20000 in
theorem ggX5_undo_X2_takeBack_6 : GoodIn wsX5_undo wsX40 := goodIn_r _ [104, 105, 106, 107, 108, 109, 110, 111, 112] (by decide +kernel) (by decide +kernel)
set_option maxRecDepth 20000 in
theorem ggX5_undo_X2_takeBack : GoodIn wsX5_undo wsX2_takeBack := goodIn_c1 ggX5_undo_X2_takeBack_h (goodIn_app (goodIn_app (goodIn_app (goodIn_app (goodIn_app ggX5_undo_X2_takeBack_0 (goodIn_app ggX5_undo_X2_takeBack_1 ggX5_undo_X2_takeBack_2)) ggX5_undo_X2_takeBack_3) ggX5_undo_X2_takeBack_4) ggX5_undo_X2_takeBack_5) ggX5_undo_X2_takeBack_6)
set_option maxRecDepth 20000 in
theorem gX5_undo_X2_takeBack : GoodIn wsX5_undo (wsV RX5 198 RX2 yX2_takeBack wsX2_takeBack) := goodIn_app (goodIn_of _ (by decide +kernel)) ggX5_undo_X2_takeBack
theorem dX5_undo_0 : decode cX5_undo 0 = .ok (.aload_n 0, 1) := by decide +kernel
theorem dX5_undo_1 : decode cX5_undo 1 = .ok (.getfield 29, 3) := by decide +kernel
theorem dX5_undo_4 : decode cX5_undo 4 = .ok (.invokevirtual 193, 3) := by decide +kernel
theorem dX5_undo_7 : decode cX5_undo 7 = .ok (.ifCond .eq 13, 3) := by decide +kernel
theorem dX5_undo_10 : decode cX5_undo 10 = .ok (.new 59, 3) := by decide +kernel
theorem dX5_undo_13 : decode cX5_undo 13 = .ok (.dup, 1) := by decide +kernel
theorem dX5_undo_14 : decode cX5_undo 14 = .ok (.ldc 196, 2) := by decide +kernel
theorem dX5_undo_16 : decode cX5_undo 16 = .ok (.invokespecial 63, 3) := by decide +kernel
theorem dX5_undo_19 : decode cX5_undo 19 = .ok (.athrow, 1) := by decide +kernel
theorem dX5_undo_20 : decode cX5_undo 20 = .ok (.aload_n 0, 1) := by decide +kernel
theorem dX5_undo_21 : decode cX5_undo 21 = .ok (.getfield 29, 3) := by decide +kernel
theorem dX5_undo_24 : decode cX5_undo 24 = .ok (.aload_n 0, 1) := by decide +kernel
theorem dX5_undo_25 : decode cX5_undo 25 = .ok (.getfield 10, 3) := by decide +kernel
theorem dX5_undo_28 : decode cX5_undo 28 = .ok (.invokevirtual 198, 3) := by decide +kernel
theorem dX5_undo_31 : decode cX5_undo 31 = .ok (.ireturn, 1) := by decide +kernel
set_option maxRecDepth 20000 in
theorem ggX5_servedIn_X5_requireStanding : GoodIn wsX5_servedIn wsX5_requireStanding := goodIn_ca (goodIn_ca (goodIn_r _ [6, 7, 8, 1, 9, 10, 11, 5, 12, 13, 14, 15, 16, 17, 18, 19, 20, 21, 22, 23, 24, 25, 26, 27, 28, 29, 30, 31, 32, 61, 62, 63, 64, 65, 66, 67, 68, 69, 70, 71, 72, 73, 74, 75, 76, 77, 78, 79, 80, 81, 82, 83, 84, 85, 86] (by decide +kernel) (by decide +kernel)) (goodIn_sub (fun _ h => List.mem_cons_of_mem _ (List.mem_append_left _ (List.mem_append_right _ h))) (by decide +kernel))) (goodIn_sub (fun _ h => List.mem_cons_of_mem _ (List.mem_append_right _ h)) (by decide +kernel))
set_option maxRecDepth 20000 in
theorem gX5_servedIn_X5_requireStanding : GoodIn wsX5_servedIn (wsV RX5 149 RX5 yX5_requireStanding wsX5_requireStanding) := goodIn_app (goodIn_of _ (by decide +kernel)) ggX5_servedIn_X5_requireStanding
set_option maxRecDepth 20000 in
theorem ggX5_servedIn_X1_waitOf : GoodIn wsX5_servedIn wsX1_waitOf := goodIn_r _ [36, 37, 27, 28, 29, 18, 30, 31, 32, 38, 39, 40, 41, 42, 43, 44, 45, 46, 47, 48, 49, 50, 51, 52, 53, 54, 55, 56, 57, 58, 59, 60, 78, 79, 80, 81, 82, 83, 84, 85, 86, 67, 68, 69, 70, 71, 72, 73, 74, 75, 76, 77, 87, 88, 89, 90, 91] (by decide +kernel) (by decide +kernel)
set_option maxRecDepth 20000 in
theorem gX5_servedIn_X1_waitOf : GoodIn wsX5_servedIn (wsV RX5 201 RX1 yX1_waitOf wsX1_waitOf) := goodIn_app (goodIn_of _ (by decide +kernel)) ggX5_servedIn_X1_waitOf
theorem dX5_servedIn_0 : decode cX5_servedIn 0 = .ok (.aload_n 0, 1) := by decide +kernel
theorem dX5_servedIn_1 : decode cX5_servedIn 1 = .ok (.iload_n 1, 1) := by decide +kernel
theorem dX5_servedIn_2 : decode cX5_servedIn 2 = .ok (.invokevirtual 149, 3) := by decide +kernel
theorem dX5_servedIn_5 : decode cX5_servedIn 5 = .ok (.aload_n 0, 1) := by decide +kernel
theorem dX5_servedIn_6 : decode cX5_servedIn 6 = .ok (.getfield 10, 3) := by decide +kernel
theorem dX5_servedIn_9 : decode cX5_servedIn 9 = .ok (.iload_n 1, 1) := by decide +kernel
theorem dX5_servedIn_10 : decode cX5_servedIn 10 = .ok (.invokevirtual 201, 3) := by decide +kernel
theorem dX5_servedIn_13 : decode cX5_servedIn 13 = .ok (.ireturn, 1) := by decide +kernel
set_option maxRecDepth 20000 in
theorem ggX5_willPay_X1_feesWithin_h : GoodIn wsX5_willPay [.code yX1_feesWithin cX1_feesWithin 6 (some .int)] := goodIn_r _ [8] (by decide +kernel) (by decide +kernel)
set_option maxRecDepth 20000 in
theorem ggX5_willPay_X1_feesWithin_0 : GoodIn wsX5_willPay wsX1_feesWithin_r1 := goodIn_r _ [9, 10, 11, 12, 13, 14, 15, 16, 17, 18, 7, 19, 20, 21, 22, 23, 24, 25, 26, 27, 28, 29, 30, 31] (by decide +kernel) (by decide +kernel)
set_option maxRecDepth 20000 in
theorem ggX5_willPay_X1_feesWithin_1 : GoodIn wsX5_willPay wsX1_feesWithin_r2 := goodIn_r _ [32, 33, 34, 35, 36, 37, 38, 39, 40, 41, 42, 43, 44, 45, 46, 47, 48, 49, 50, 51, 52, 53, 54, 55] (by decide +kernel) (by decide +kernel)
set_option maxRecDepth 20000 in
theorem ggX5_willPay_X1_feesWithin_2 : GoodIn wsX5_willPay wsX1_feesWithin_r3 := goodIn_r _ [56, 57, 58, 59, 60, 61, 62] (by decide +kernel) (by decide +kernel)
set_option maxRecDepth 20000 in
theorem ggX5_willPay_X1_feesWithin_3 : GoodIn wsX5_willPay wsX10 := goodIn_r _ [69, 70, 71, 72, 73, 74, 75, 76, 77, 78, 79] (by decide +kernel) (by decide +kernel)
set_option maxRecDepth 20000 in
theorem ggX5_willPay_X1_feesWithin_4 : GoodIn wsX5_willPay wsX40 := goodIn_r _ [80, 81, 82, 83, 84, 85, 86, 87, 88] (by decide +kernel) (by decide +kernel)
set_option maxRecDepth 20000 in
theorem ggX5_willPay_X1_feesWithin_5 : GoodIn wsX5_willPay wsX30 := goodIn_r _ [89, 90, 91, 92, 93] (by decide +kernel) (by decide +kernel)
set_option maxRecDepth 20000 in
theorem ggX5_willPay_X1_feesWithin : GoodIn wsX5_willPay wsX1_feesWithin := goodIn_c1 ggX5_willPay_X1_feesWithin_h (goodIn_app (goodIn_app (goodIn_app (goodIn_app ggX5_willPay_X1_feesWithin_0 (goodIn_app ggX5_willPay_X1_feesWithin_1 ggX5_willPay_X1_feesWithin_2)) ggX5_willPay_X1_feesWithin_3) ggX5_willPay_X1_feesWithin_4) ggX5_willPay_X1_feesWithin_5)
set_option maxRecDepth 20000 in
theorem gX5_willPay_X1_feesWithin : GoodIn wsX5_willPay (wsV RX5 206 RX1 yX1_feesWithin wsX1_feesWithin) := goodIn_app (goodIn_of _ (by decide +kernel)) ggX5_willPay_X1_feesWithin
theorem dX5_willPay_0 : decode cX5_willPay 0 = .ok (.iload_n 1, 1) := by decide +kernel
theorem dX5_willPay_1 : decode cX5_willPay 1 = .ok (.iconst 1, 1) := by decide +kernel
theorem dX5_willPay_2 : decode cX5_willPay 2 = .ok (.if_icmp .lt 10, 3) := by decide +kernel
theorem dX5_willPay_5 : decode cX5_willPay 5 = .ok (.iload_n 1, 1) := by decide +kernel
theorem dX5_willPay_6 : decode cX5_willPay 6 = .ok (.sipush 999, 3) := by decide +kernel
theorem dX5_willPay_9 : decode cX5_willPay 9 = .ok (.if_icmp .le 13, 3) := by decide +kernel
theorem dX5_willPay_12 : decode cX5_willPay 12 = .ok (.new 48, 3) := by decide +kernel
theorem dX5_willPay_15 : decode cX5_willPay 15 = .ok (.dup, 1) := by decide +kernel
theorem dX5_willPay_16 : decode cX5_willPay 16 = .ok (.ldc 204, 2) := by decide +kernel
theorem dX5_willPay_18 : decode cX5_willPay 18 = .ok (.invokespecial 52, 3) := by decide +kernel
theorem dX5_willPay_21 : decode cX5_willPay 21 = .ok (.athrow, 1) := by decide +kernel
theorem dX5_willPay_22 : decode cX5_willPay 22 = .ok (.aload_n 0, 1) := by decide +kernel
theorem dX5_willPay_23 : decode cX5_willPay 23 = .ok (.getfield 10, 3) := by decide +kernel
theorem dX5_willPay_26 : decode cX5_willPay 26 = .ok (.iload_n 1, 1) := by decide +kernel
theorem dX5_willPay_27 : decode cX5_willPay 27 = .ok (.invokevirtual 206, 3) := by decide +kernel
theorem dX5_willPay_30 : decode cX5_willPay 30 = .ok (.ireturn, 1) := by decide +kernel
set_option maxRecDepth 20000 in
theorem ggX5_gain_X5_requireTrade : GoodIn wsX5_gain wsX5_requireTrade := goodIn_ca (goodIn_ca (goodIn_r _ [6, 7, 8, 1, 9, 10, 11, 5, 12, 13, 14, 15, 16, 17, 18, 19, 20, 21, 22, 23, 24, 25, 26, 27, 28, 29, 30, 31, 32, 33, 34, 35, 36, 37, 38, 39, 40, 41, 42, 43, 44, 45, 46, 47, 48, 49, 50, 51, 52, 53, 54, 55, 56, 57, 58, 59, 60, 61, 72, 73, 74, 75, 76, 77, 78, 79, 80, 81, 82, 83, 84, 85, 86, 87, 88, 89, 90, 91, 92, 93, 94, 95, 96, 97, 98, 99, 100, 101, 102] (by decide +kernel) (by decide +kernel)) (goodIn_sub (fun _ h => List.mem_cons_of_mem _ (List.mem_append_left _ (List.mem_append_right _ h))) (by decide +kernel))) (goodIn_sub (fun _ h => List.mem_cons_of_mem _ (List.mem_append_right _ h)) (by decide +kernel))
set_option maxRecDepth 20000 in
theorem gX5_gain_X5_requireTrade : GoodIn wsX5_gain (wsV RX5 155 RX5 yX5_requireTrade wsX5_requireTrade) := goodIn_app (goodIn_of _ (by decide +kernel)) ggX5_gain_X5_requireTrade
set_option maxRecDepth 20000 in
theorem ggX5_gain_X1_profit_h : GoodIn wsX5_gain [.code yX1_profit cX1_profit 6 (some .int)] := goodIn_r _ [65] (by decide +kernel) (by decide +kernel)
set_option maxRecDepth 20000 in
theorem ggX5_gain_X1_profit_0 : GoodIn wsX5_gain wsX1_profit_r1 := goodIn_r _ [25, 34, 35, 36, 18, 37, 38, 39, 44, 45, 46, 47, 48, 49, 40, 41, 42, 43, 50, 51, 52, 53, 54, 55] (by decide +kernel) (by decide +kernel)
set_option maxRecDepth 20000 in
theorem ggX5_gain_X1_profit_1 : GoodIn wsX5_gain wsX1_profit_r2 := goodIn_r _ [56, 66, 67, 68, 69, 70, 71, 57, 58, 59, 60, 61] (by decide +kernel) (by decide +kernel)
set_option maxRecDepth 20000 in
theorem ggX5_gain_X1_profit_2 : GoodIn wsX5_gain wsX40 := goodIn_r _ [89, 90, 91, 92, 93, 94, 95, 96, 97] (by decide +kernel) (by decide +kernel)
set_option maxRecDepth 20000 in
theorem ggX5_gain_X1_profit_3 : GoodIn wsX5_gain wsX10 := goodIn_r _ [78, 79, 80, 81, 82, 83, 84, 85, 86, 87, 88] (by decide +kernel) (by decide +kernel)
set_option maxRecDepth 20000 in
theorem ggX5_gain_X1_profit_4 : GoodIn wsX5_gain wsX30 := goodIn_r _ [98, 99, 100, 101, 102] (by decide +kernel) (by decide +kernel)
set_option maxRecDepth 20000 in
theorem ggX5_gain_X1_profit : GoodIn wsX5_gain wsX1_profit := goodIn_c1 ggX5_gain_X1_profit_h (goodIn_app (goodIn_app (goodIn_app (goodIn_app ggX5_gain_X1_profit_0 ggX5_gain_X1_profit_1) ggX5_gain_X1_profit_2) ggX5_gain_X1_profit_3) ggX5_gain_X1_profit_4)
set_option maxRecDepth 20000 in
theorem gX5_gain_X1_profit : GoodIn wsX5_gain (wsV RX5 209 RX1 yX1_profit wsX1_profit) := goodIn_app (goodIn_of _ (by decide +kernel)) ggX5_gain_X1_profit
theorem dX5_gain_0 : decode cX5_gain 0 = .ok (.aload_n 0, 1) := by decide +kernel
theorem dX5_gain_1 : decode cX5_gain 1 = .ok (.iload_n 1, 1) := by decide +kernel
theorem dX5_gain_2 : decode cX5_gain 2 = .ok (.iload_n 2, 1) := by decide +kernel
theorem dX5_gain_3 : decode cX5_gain 3 = .ok (.invokevirtual 155, 3) := by decide +kernel
theorem dX5_gain_6 : decode cX5_gain 6 = .ok (.aload_n 0, 1) := by decide +kernel
theorem dX5_gain_7 : decode cX5_gain 7 = .ok (.getfield 10, 3) := by decide +kernel
theorem dX5_gain_10 : decode cX5_gain 10 = .ok (.iload_n 1, 1) := by decide +kernel
theorem dX5_gain_11 : decode cX5_gain 11 = .ok (.iload_n 2, 1) := by decide +kernel
theorem dX5_gain_12 : decode cX5_gain 12 = .ok (.invokevirtual 209, 3) := by decide +kernel
theorem dX5_gain_15 : decode cX5_gain 15 = .ok (.ireturn, 1) := by decide +kernel
set_option maxRecDepth 20000 in
theorem ggX5_partner_X5_requirePerson : GoodIn wsX5_partner wsX5_requirePerson := goodIn_ca (goodIn_r _ [6, 7, 8, 1, 9, 10, 11, 12, 13, 14, 70, 71, 72, 73, 74, 75, 76, 77, 78, 79, 80, 81, 82, 83, 84, 85, 86] (by decide +kernel) (by decide +kernel)) (goodIn_sub (fun _ h => List.mem_cons_of_mem _ (List.mem_append_right _ h)) (by decide +kernel))
set_option maxRecDepth 20000 in
theorem gX5_partner_X5_requirePerson : GoodIn wsX5_partner (wsV RX5 109 RX5 yX5_requirePerson wsX5_requirePerson) := goodIn_app (goodIn_of _ (by decide +kernel)) ggX5_partner_X5_requirePerson
set_option maxRecDepth 20000 in
theorem ggX5_partner_X1_bestPartner_h : GoodIn wsX5_partner [.code yX1_bestPartner cX1_bestPartner 4 (some .int)] := goodIn_r _ [18] (by decide +kernel) (by decide +kernel)
set_option maxRecDepth 20000 in
theorem ggX5_partner_X1_bestPartner_0 : GoodIn wsX5_partner wsX1_bestPartner_r1 := goodIn_r _ [14, 19, 20, 21, 12, 22, 23, 24, 25, 26, 27, 28, 29, 30, 31, 10, 11, 13, 32, 33, 34, 35, 36, 37] (by decide +kernel) (by decide +kernel)
set_option maxRecDepth 20000 in
theorem ggX5_partner_X1_bestPartner_1 : GoodIn wsX5_partner wsX1_bestPartner_r2 := goodIn_r _ [38, 39, 40, 41, 42, 43, 44, 45, 46, 47, 48, 49, 50, 51, 52, 53, 54, 55, 56, 57, 58, 59, 60, 61] (by decide +kernel) (by decide +kernel)
set_option maxRecDepth 20000 in
theorem ggX5_partner_X1_bestPartner_2 : GoodIn wsX5_partner wsX1_bestPartner_r3 := goodIn_r _ [62, 63, 64, 65, 66, 67, 68, 69] (by decide +kernel) (by decide +kernel)
set_option maxRecDepth 20000 in
theorem ggX5_partner_X1_bestPartner_3 : GoodIn wsX5_partner wsX10 := goodIn_r _ [76, 77, 78, 79, 80, 81, 82, 83, 84, 85, 86] (by decide +kernel) (by decide +kernel)
set_option maxRecDepth 20000 in
theorem ggX5_partner_X1_bestPartner_4 : GoodIn wsX5_partner wsX40 := goodIn_r _ [87, 88, 89, 90, 91, 92, 93, 94, 95] (by decide +kernel) (by decide +kernel)
set_option maxRecDepth 20000 in
theorem ggX5_partner_X1_bestPartner_5 : GoodIn wsX5_partner wsX30 := goodIn_r _ [96, 97, 98, 99, 100] (by decide +kernel) (by decide +kernel)
set_option maxRecDepth 20000 in
theorem ggX5_partner_X1_bestPartner : GoodIn wsX5_partner wsX1_bestPartner := goodIn_c1 ggX5_partner_X1_bestPartner_h (goodIn_app (goodIn_app (goodIn_app (goodIn_app ggX5_partner_X1_bestPartner_0 (goodIn_app ggX5_partner_X1_bestPartner_1 ggX5_partner_X1_bestPartner_2)) ggX5_partner_X1_bestPartner_3) ggX5_partner_X1_bestPartner_4) ggX5_partner_X1_bestPartner_5)
set_option maxRecDepth 20000 in
theorem gX5_partner_X1_bestPartner : GoodIn wsX5_partner (wsV RX5 212 RX1 yX1_bestPartner wsX1_bestPartner) := goodIn_app (goodIn_of _ (by decide +kernel)) ggX5_partner_X1_bestPartner
theorem dX5_partner_0 : decode cX5_partner 0 = .ok (.aload_n 0, 1) := by decide +kernel
theorem dX5_partner_1 : decode cX5_partner 1 = .ok (.iload_n 1, 1) := by decide +kernel
theorem dX5_partner_2 : decode cX5_partner 2 = .ok (.invokevirtual 109, 3) := by decide +kernel
theorem dX5_partner_5 : decode cX5_partner 5 = .ok (.aload_n 0, 1) := by decide +kernel
theorem dX5_partner_6 : decode cX5_partner 6 = .ok (.getfield 10, 3) := by decide +kernel
theorem dX5_partner_9 : decode cX5_partner 9 = .ok (.iload_n 1, 1) := by decide +kernel
theorem dX5_partner_10 : decode cX5_partner 10 = .ok (.invokevirtual 212, 3) := by decide +kernel
theorem dX5_partner_13 : decode cX5_partner 13 = .ok (.ireturn, 1) := by decide +kernel
set_option maxRecDepth 20000 in
theorem ggX5_bestLine_X1_soonestLine : GoodIn wsX5_bestLine wsX1_soonestLine := goodIn_r _ [6, 7, 8, 9, 10, 5, 11, 12, 13, 14, 15, 16, 17, 18, 19, 20, 21, 22, 23, 24, 25, 26, 27, 28, 29, 30, 31, 32, 33, 34, 35, 36, 37, 44, 45, 46, 47, 48, 49, 50, 51, 52, 53, 54, 55, 56, 57, 58, 59] (by decide +kernel) (by decide +kernel)
set_option maxRecDepth 20000 in
theorem gX5_bestLine_X1_soonestLine : GoodIn wsX5_bestLine (wsV RX5 215 RX1 yX1_soonestLine wsX1_soonestLine) := goodIn_app (goodIn_of _ (by decide +kernel)) ggX5_bestLine_X1_soonestLine
theorem dX5_bestLine_0 : decode cX5_bestLine 0 = .ok (.aload_n 0, 1) := by decide +kernel
theorem dX5_bestLine_1 : decode cX5_bestLine 1 = .ok (.getfield 10, 3) := by decide +kernel
theorem dX5_bestLine_4 : decode cX5_bestLine 4 = .ok (.invokevirtual 215, 3) := by decide +kernel
theorem dX5_bestLine_7 : decode cX5_bestLine 7 = .ok (.ireturn, 1) := by decide +kernel
set_option maxRecDepth 20000 in
theorem ggX5_longest_X1_longestWaiting_h : GoodIn wsX5_longest [.code yX1_longestWaiting cX1_longestWaiting 3 (some .int)] := goodIn_r _ [6] (by decide +kernel) (by decide +kernel)
set_option maxRecDepth 20000 in
theorem ggX5_longest_X1_longestWaiting_0 : GoodIn wsX5_longest wsX1_longestWaiting_r1 := goodIn_r _ [7, 8, 9, 10, 5, 11, 12, 13, 14, 15, 16, 17, 18, 19, 20, 21, 22, 23, 24, 25, 26, 27, 28, 29] (by decide +kernel) (by decide +kernel)
set_option maxRecDepth 20000 in
theorem ggX5_longest_X1_longestWaiting_1 : GoodIn wsX5_longest wsX1_longestWaiting_r2 := goodIn_r _ [30, 31, 32, 33, 34, 35, 36, 37, 38, 39, 40, 41, 42, 43, 44, 45, 46, 47, 48, 49, 50, 51, 52, 53] (by decide +kernel) (by decide +kernel)
set_option maxRecDepth 20000 in
theorem ggX5_longest_X1_longestWaiting_2 : GoodIn wsX5_longest wsX1_longestWaiting_r3 := goodIn_r _ [54, 55] (by decide +kernel) (by decide +kernel)
set_option maxRecDepth 20000 in
theorem ggX5_longest_X1_longestWaiting_3 : GoodIn wsX5_longest wsX10 := goodIn_r _ [62, 63, 64, 65, 66, 67, 68, 69, 70, 71, 72] (by decide +kernel) (by decide +kernel)
set_option maxRecDepth 20000 in
theorem ggX5_longest_X1_longestWaiting_4 : GoodIn wsX5_longest wsX40 := goodIn_r _ [73, 74, 75, 76, 77, 78, 79, 80, 81] (by decide +kernel) (by decide +kernel)
set_option maxRecDepth 20000 in
theorem ggX5_longest_X1_longestWaiting_5 : GoodIn wsX5_longest wsX30 := goodIn_r _ [82, 83, 84, 85, 86] (by decide +kernel) (by decide +kernel)
set_option maxRecDepth 20000 in
theorem ggX5_longest_X1_longestWaiting : GoodIn wsX5_longest wsX1_longestWaiting := goodIn_c1 ggX5_longest_X1_longestWaiting_h (goodIn_app (goodIn_app (goodIn_app (goodIn_app ggX5_longest_X1_longestWaiting_0 (goodIn_app ggX5_longest_X1_longestWaiting_1 ggX5_longest_X1_longestWaiting_2)) ggX5_longest_X1_longestWaiting_3) ggX5_longest_X1_longestWaiting_4) ggX5_longest_X1_longestWaiting_5)
set_option maxRecDepth 20000 in
theorem gX5_longest_X1_longestWaiting : GoodIn wsX5_longest (wsV RX5 218 RX1 yX1_longestWaiting wsX1_longestWaiting) := goodIn_app (goodIn_of _ (by decide +kernel)) ggX5_longest_X1_longestWaiting
theorem dX5_longest_0 : decode cX5_longest 0 = .ok (.aload_n 0, 1) := by decide +kernel
theorem dX5_longest_1 : decode cX5_longest 1 = .ok (.getfield 10, 3) := by decide +kernel
theorem dX5_longest_4 : decode cX5_longest 4 = .ok (.invokevirtual 218, 3) := by decide +kernel
theorem dX5_longest_7 : decode cX5_longest 7 = .ok (.ireturn, 1) := by decide +kernel
set_option maxRecDepth 20000 in
theorem ggX5_saved_X5_requireUnion : GoodIn wsX5_saved wsX5_requireUnion := goodIn_ca (goodIn_ca (goodIn_ca (goodIn_r _ [6, 7, 8, 9, 10, 1, 11, 12, 13, 5, 14, 15, 16, 17, 18, 19, 20, 21, 22, 23, 24, 25, 26, 27, 28, 29, 30, 31, 32, 33, 34, 46, 47, 48, 49, 50, 51, 52, 53, 54, 55, 56, 57, 58, 59, 60, 61, 62, 63, 64, 65, 66, 67] (by decide +kernel) (by decide +kernel)) (goodIn_sub (fun _ h => List.mem_cons_of_mem _ (List.mem_append_left _ (List.mem_append_left _ (List.mem_append_right _ h)))) (by decide +kernel))) (goodIn_sub (fun _ h => List.mem_cons_of_mem _ (List.mem_append_left _ (List.mem_append_right _ h))) (by decide +kernel))) (goodIn_sub (fun _ h => List.mem_cons_of_mem _ (List.mem_append_right _ h)) (by decide +kernel))
set_option maxRecDepth 20000 in
theorem gX5_saved_X5_requireUnion : GoodIn wsX5_saved (wsV RX5 170 RX5 yX5_requireUnion wsX5_requireUnion) := goodIn_app (goodIn_of _ (by decide +kernel)) ggX5_saved_X5_requireUnion
set_option maxRecDepth 20000 in
theorem ggX5_saved_X1_savedByUnion : GoodIn wsX5_saved wsX1_savedByUnion := goodIn_r _ [38, 27, 29, 30, 31, 20, 32, 33, 34, 39, 40, 41, 42, 43, 44, 45, 63, 64, 65, 66, 67, 52, 53, 54, 55, 56, 57, 58, 59, 60, 61, 62] (by decide +kernel) (by decide +kernel)
set_option maxRecDepth 20000 in
theorem gX5_saved_X1_savedByUnion : GoodIn wsX5_saved (wsV RX5 221 RX1 yX1_savedByUnion wsX1_savedByUnion) := goodIn_app (goodIn_of _ (by decide +kernel)) ggX5_saved_X1_savedByUnion
theorem dX5_saved_0 : decode cX5_saved 0 = .ok (.aload_n 0, 1) := by decide +kernel
theorem dX5_saved_1 : decode cX5_saved 1 = .ok (.iload_n 1, 1) := by decide +kernel
theorem dX5_saved_2 : decode cX5_saved 2 = .ok (.iload_n 2, 1) := by decide +kernel
theorem dX5_saved_3 : decode cX5_saved 3 = .ok (.invokevirtual 170, 3) := by decide +kernel
theorem dX5_saved_6 : decode cX5_saved 6 = .ok (.aload_n 0, 1) := by decide +kernel
theorem dX5_saved_7 : decode cX5_saved 7 = .ok (.getfield 10, 3) := by decide +kernel
theorem dX5_saved_10 : decode cX5_saved 10 = .ok (.iload_n 1, 1) := by decide +kernel
theorem dX5_saved_11 : decode cX5_saved 11 = .ok (.iload_n 2, 1) := by decide +kernel
theorem dX5_saved_12 : decode cX5_saved 12 = .ok (.invokevirtual 221, 3) := by decide +kernel
theorem dX5_saved_15 : decode cX5_saved 15 = .ok (.ireturn, 1) := by decide +kernel
set_option maxRecDepth 20000 in
theorem ggX5_runScript_X5_withoutGroups : GoodIn wsX5_runScript wsX5_withoutGroups := goodIn_r _ [9, 5] (by decide +kernel) (by decide +kernel)
set_option maxRecDepth 20000 in
theorem gX5_runScript_X5_withoutGroups : GoodIn wsX5_runScript (va_wsS RX5 226 yX5_withoutGroups wsX5_withoutGroups) := goodIn_app (goodIn_of _ (by decide +kernel)) ggX5_runScript_X5_withoutGroups
set_option maxRecDepth 20000 in
theorem ggX5_runScript_X1_copyFrom_h : GoodIn wsX5_runScript [.code yX1_copyFrom cX1_copyFrom 3 none] := goodIn_r _ [14] (by decide +kernel) (by decide +kernel)
set_option maxRecDepth 20000 in
theorem ggX5_runScript_X1_copyFrom_0 : GoodIn wsX5_runScript wsX1_copyFrom_r1 := goodIn_r _ [15, 16, 17, 18, 19, 20, 21, 22, 23, 24, 25, 26, 27, 28, 29, 30, 13, 31, 32, 33, 34, 35, 36, 37] (by decide +kernel) (by decide +kernel)
set_option maxRecDepth 20000 in
theorem ggX5_runScript_X1_copyFrom_1 : GoodIn wsX5_runScript wsX1_copyFrom_r2 := goodIn_r _ [38, 39, 40, 41, 42, 43, 44, 45, 46, 47, 48, 49, 50, 51, 52, 53, 54, 55, 56, 57, 58, 59, 60, 61] (by decide +kernel) (by decide +kernel)
set_option maxRecDepth 20000 in
theorem ggX5_runScript_X1_copyFrom_2 : GoodIn wsX5_runScript wsX1_copyFrom_r3 := goodIn_r _ [62] (by decide +kernel) (by decide +kernel)
set_option maxRecDepth 20000 in
theorem ggX5_runScript_X1_copyFrom_3 : GoodIn wsX5_runScript wsX10 := goodIn_r _ [211, 212, 213, 214, 215, 216, 217, 218, 219, 220, 221] (by decide +kernel) (by decide +kernel)
set_option maxRecDepth 20000 in
theorem ggX5_runScript_X1_copyFrom_4 : GoodIn wsX5_runScript wsX30 := goodIn_r _ [222, 223, 224, 225, 226] (by decide +kernel) (by decide +kernel)
set_option maxRecDepth 20000 in
theorem ggX5_runScript_X1_copyFrom_5 : GoodIn wsX5_runScript wsX40 := goodIn_r _ [227, 228, 229, 230, 231, 232, 233, 234, 235] (by decide +kernel) (by decide +kernel)
set_option maxRecDepth 20000 in
theorem ggX5_runScript_X1_copyFrom : GoodIn wsX5_runScript wsX1_copyFrom := goodIn_c1 ggX5_runScript_X1_copyFrom_h (goodIn_app (goodIn_app (goodIn_app (goodIn_app ggX5_runScript_X1_copyFrom_0 (goodIn_app ggX5_runScript_X1_copyFrom_1 ggX5_runScript_X1_copyFrom_2)) ggX5_runScript_X1_copyFrom_3) ggX5_runScript_X1_copyFrom_4) ggX5_runScript_X1_copyFrom_5)
set_option maxRecDepth 20000 in
theorem gX5_runScript_X1_copyFrom : GoodIn wsX5_runScript (wsV RX5 232 RX1 yX1_copyFrom wsX1_copyFrom) := goodIn_app (goodIn_of _ (by decide +kernel)) ggX5_runScript_X1_copyFrom
set_option maxRecDepth 20000 in
theorem ggX5_runScript_X1_obeys_h : GoodIn wsX5_runScript [.code yX1_obeys cX1_obeys 6 (some .boolean)] := goodIn_r _ [66] (by decide +kernel) (by decide +kernel)
set_option maxRecDepth 20000 in
theorem ggX5_runScript_X1_obeys_0 : GoodIn wsX5_runScript wsX1_obeys_r1 := goodIn_r _ [67, 20, 68, 69, 70, 13, 71, 16, 17, 72, 73, 74, 75, 76, 77, 78, 79, 80, 15, 81, 8, 82, 28, 29] (by decide +kernel) (by decide +kernel)
set_option maxRecDepth 20000 in
theorem ggX5_runScript_X1_obeys_1 : GoodIn wsX5_runScript wsX1_obeys_r2 := goodIn_r _ [30, 31, 26, 32, 44, 45, 46, 47, 27, 48, 83, 84, 85, 52, 86, 54, 55, 56, 57, 58, 59, 60, 61, 62] (by decide +kernel) (by decide +kernel)
set_option maxRecDepth 20000 in
theorem ggX5_runScript_X1_obeys_2 : GoodIn wsX5_runScript wsX1_obeys_r3 := goodIn_r _ [87, 88, 89, 36, 90, 41, 42, 91, 92, 93, 94, 95, 96, 97, 98, 99, 100, 101, 102, 103, 104, 105, 106, 107] (by decide +kernel) (by decide +kernel)
set_option maxRecDepth 20000 in
theorem ggX5_runScript_X1_obeys_3 : GoodIn wsX5_runScript wsX1_obeys_r4 := goodIn_r _ [108, 109, 110, 111, 112, 113, 114, 115, 116, 117, 118, 119, 120, 121, 122, 123, 124, 125, 126, 127, 128, 129, 130, 18] (by decide +kernel) (by decide +kernel)
set_option maxRecDepth 20000 in
theorem ggX5_runScript_X1_obeys_4 : GoodIn wsX5_runScript wsX1_obeys_r5 := goodIn_r _ [131, 132, 133, 134, 135, 136, 137, 138, 21, 139, 140, 141, 142, 143, 144, 145, 146, 147, 148, 149, 150, 151, 19, 152] (by decide +kernel) (by decide +kernel)
set_option maxRecDepth 20000 in
theorem ggX5_runScript_X1_obeys_5 : GoodIn wsX5_runScript wsX1_obeys_r6 := goodIn_r _ [153, 154, 155, 156, 157, 158, 159, 160, 161, 162, 163, 164, 165, 166, 167, 168, 169, 170, 171, 172, 173, 174, 175, 176] (by decide +kernel) (by decide +kernel)
set_option maxRecDepth 20000 in
theorem ggX5_runScript_X1_obeys_6 : GoodIn wsX5_runScript wsX1_obeys_r7 := goodIn_r _ [177, 178, 179, 180, 181, 182, 183, 184, 185, 186, 187, 188, 189, 190, 191, 192, 193, 194, 195, 196, 197, 198, 199, 200] (by decide +kernel) (by decide +kernel)
set_option maxRecDepth 20000 in
theorem ggX5_runScript_X1_obeys_7 : GoodIn wsX5_runScript wsX1_obeys_r8 := goodIn_r _ [201, 202, 203, 204] (by decide +kernel) (by decide +kernel)
set_option maxRecDepth 20000 in
theorem ggX5_runScript_X1_obeys_8 : GoodIn wsX5_runScript wsX40 := goodIn_r _ [227, 228, 229, 230, 231, 232, 233, 234, 235] (by decide +kernel) (by decide +kernel)
set_option maxRecDepth 20000 in
theorem ggX5_runScript_X1_obeys_9 : GoodIn wsX5_runScript wsX10 := goodIn_r _ [211, 212, 213, 214, 215, 216, 217, 218, 219, 220, 221] (by decide +kernel) (by decide +kernel)
set_option maxRecDepth 20000 in
theorem ggX5_runScript_X1_obeys_10 : GoodIn wsX5_runScript wsX30 := goodIn_r _ [222, 223, 224, 225, 226] (by decide +kernel) (by decide +kernel)
set_option maxRecDepth 20000 in
theorem ggX5_runScript_X1_obeys : GoodIn wsX5_runScript wsX1_obeys := goodIn_c1 ggX5_runScript_X1_obeys_h (goodIn_app (goodIn_app (goodIn_app (goodIn_app ggX5_runScript_X1_obeys_0 (goodIn_app ggX5_runScript_X1_obeys_1 (goodIn_app ggX5_runScript_X1_obeys_2 (goodIn_app ggX5_runScript_X1_obeys_3 (goodIn_app ggX5_runScript_X1_obeys_4 (goodIn_app ggX5_runScript_X1_obeys_5 (goodIn_app ggX5_runScript_X1_obeys_6 ggX5_runScript_X1_obeys_7))))))) ggX5_runScript_X1_obeys_8) ggX5_runScript_X1_obeys_9) ggX5_runScript_X1_obeys_10)
set_option maxRecDepth 20000 in
theorem gX5_runScript_X1_obeys : GoodIn wsX5_runScript (wsV RX5 237 RX1 yX1_obeys wsX1_obeys) := goodIn_app (goodIn_of _ (by decide +kernel)) ggX5_runScript_X1_obeys
theorem dX5_runScript_0 : decode cX5_runScript 0 = .ok (.iload_n 1, 1) := by decide +kernel
theorem dX5_runScript_1 : decode cX5_runScript 1 = .ok (.iconst 1, 1) := by decide +kernel
theorem dX5_runScript_2 : decode cX5_runScript 2 = .ok (.if_icmp .lt 8, 3) := by decide +kernel
theorem dX5_runScript_5 : decode cX5_runScript 5 = .ok (.iload_n 1, 1) := by decide +kernel
theorem dX5_runScript_6 : decode cX5_runScript 6 = .ok (.iconst 3, 1) := by decide +kernel
theorem dX5_runScript_7 : decode cX5_runScript 7 = .ok (.if_icmp .le 13, 3) := by decide +kernel
theorem dX5_runScript_10 : decode cX5_runScript 10 = .ok (.new 48, 3) := by decide +kernel
theorem dX5_runScript_13 : decode cX5_runScript 13 = .ok (.dup, 1) := by decide +kernel
theorem dX5_runScript_14 : decode cX5_runScript 14 = .ok (.ldc 224, 2) := by decide +kernel
theorem dX5_runScript_16 : decode cX5_runScript 16 = .ok (.invokespecial 52, 3) := by decide +kernel
theorem dX5_runScript_19 : decode cX5_runScript 19 = .ok (.athrow, 1) := by decide +kernel
theorem dX5_runScript_20 : decode cX5_runScript 20 = .ok (.lload_n 2, 1) := by decide +kernel
theorem dX5_runScript_21 : decode cX5_runScript 21 = .ok (.lconst 0, 1) := by decide +kernel
theorem dX5_runScript_22 : decode cX5_runScript 22 = .ok (.lcmp, 1) := by decide +kernel
theorem dX5_runScript_23 : decode cX5_runScript 23 = .ok (.ifCond .lt 13, 3) := by decide +kernel
theorem dX5_runScript_26 : decode cX5_runScript 26 = .ok (.lload_n 2, 1) := by decide +kernel
theorem dX5_runScript_27 : decode cX5_runScript 27 = .ok (.iload_n 1, 1) := by decide +kernel
theorem dX5_runScript_28 : decode cX5_runScript 28 = .ok (.invokestatic 226, 3) := by decide +kernel
theorem dX5_runScript_31 : decode cX5_runScript 31 = .ok (.lconst 0, 1) := by decide +kernel
theorem dX5_runScript_32 : decode cX5_runScript 32 = .ok (.lcmp, 1) := by decide +kernel
theorem dX5_runScript_33 : decode cX5_runScript 33 = .ok (.ifCond .eq 13, 3) := by decide +kernel
theorem dX5_runScript_36 : decode cX5_runScript 36 = .ok (.new 48, 3) := by decide +kernel
theorem dX5_runScript_39 : decode cX5_runScript 39 = .ok (.dup, 1) := by decide +kernel
theorem dX5_runScript_40 : decode cX5_runScript 40 = .ok (.ldc 230, 2) := by decide +kernel
theorem dX5_runScript_42 : decode cX5_runScript 42 = .ok (.invokespecial 52, 3) := by decide +kernel
theorem dX5_runScript_45 : decode cX5_runScript 45 = .ok (.athrow, 1) := by decide +kernel
theorem dX5_runScript_46 : decode cX5_runScript 46 = .ok (.aload_n 0, 1) := by decide +kernel
theorem dX5_runScript_47 : decode cX5_runScript 47 = .ok (.getfield 23, 3) := by decide +kernel
theorem dX5_runScript_50 : decode cX5_runScript 50 = .ok (.aload_n 0, 1) := by decide +kernel
theorem dX5_runScript_51 : decode cX5_runScript 51 = .ok (.getfield 10, 3) := by decide +kernel
theorem dX5_runScript_54 : decode cX5_runScript 54 = .ok (.invokevirtual 232, 3) := by decide +kernel
theorem dX5_runScript_57 : decode cX5_runScript 57 = .ok (.iconst 0, 1) := by decide +kernel
theorem dX5_runScript_58 : decode cX5_runScript 58 = .ok (.istore 4, 2) := by decide +kernel
theorem dX5_runScript_60 : decode cX5_runScript 60 = .ok (.iload 4, 2) := by decide +kernel
theorem dX5_runScript_62 : decode cX5_runScript 62 = .ok (.iload_n 1, 1) := by decide +kernel
theorem dX5_runScript_63 : decode cX5_runScript 63 = .ok (.if_icmp .ge 41, 3) := by decide +kernel
theorem dX5_runScript_66 : decode cX5_runScript 66 = .ok (.lload_n 2, 1) := by decide +kernel
theorem dX5_runScript_67 : decode cX5_runScript 67 = .ok (.iload_n 1, 1) := by decide +kernel
theorem dX5_runScript_68 : decode cX5_runScript 68 = .ok (.iconst 1, 1) := by decide +kernel
theorem dX5_runScript_69 : decode cX5_runScript 69 = .ok (.isub, 1) := by decide +kernel
theorem dX5_runScript_70 : decode cX5_runScript 70 = .ok (.iload 4, 2) := by decide +kernel
theorem dX5_runScript_72 : decode cX5_runScript 72 = .ok (.isub, 1) := by decide +kernel
theorem dX5_runScript_73 : decode cX5_runScript 73 = .ok (.invokestatic 226, 3) := by decide +kernel
theorem dX5_runScript_76 : decode cX5_runScript 76 = .ok (.ldc2_w 235, 3) := by decide +kernel
theorem dX5_runScript_79 : decode cX5_runScript 79 = .ok (.lrem, 1) := by decide +kernel
theorem dX5_runScript_80 : decode cX5_runScript 80 = .ok (.l2i, 1) := by decide +kernel
theorem dX5_runScript_81 : decode cX5_runScript 81 = .ok (.istore 5, 2) := by decide +kernel
theorem dX5_runScript_83 : decode cX5_runScript 83 = .ok (.aload_n 0, 1) := by decide +kernel
theorem dX5_runScript_84 : decode cX5_runScript 84 = .ok (.getfield 23, 3) := by decide +kernel
theorem dX5_runScript_87 : decode cX5_runScript 87 = .ok (.iload 5, 2) := by decide +kernel
theorem dX5_runScript_89 : decode cX5_runScript 89 = .ok (.invokevirtual 237, 3) := by decide +kernel
theorem dX5_runScript_92 : decode cX5_runScript 92 = .ok (.ifCond .ne 6, 3) := by decide +kernel
theorem dX5_runScript_95 : decode cX5_runScript 95 = .ok (.iload 4, 2) := by decide +kernel
theorem dX5_runScript_97 : decode cX5_runScript 97 = .ok (.ireturn, 1) := by decide +kernel
theorem dX5_runScript_98 : decode cX5_runScript 98 = .ok (.iinc 4 1, 3) := by decide +kernel
theorem dX5_runScript_101 : decode cX5_runScript 101 = .ok (.goto (-41), 3) := by decide +kernel
theorem dX5_runScript_104 : decode cX5_runScript 104 = .ok (.iconst (-1), 1) := by decide +kernel
theorem dX5_runScript_105 : decode cX5_runScript 105 = .ok (.ireturn, 1) := by decide +kernel
theorem dX5_withoutGroups_0 : decode cX5_withoutGroups 0 = .ok (.lload_n 0, 1) := by decide +kernel
theorem dX5_withoutGroups_1 : decode cX5_withoutGroups 1 = .ok (.lstore_n 3, 1) := by decide +kernel
theorem dX5_withoutGroups_2 : decode cX5_withoutGroups 2 = .ok (.iconst 0, 1) := by decide +kernel
theorem dX5_withoutGroups_3 : decode cX5_withoutGroups 3 = .ok (.istore 5, 2) := by decide +kernel
theorem dX5_withoutGroups_5 : decode cX5_withoutGroups 5 = .ok (.iload 5, 2) := by decide +kernel
theorem dX5_withoutGroups_7 : decode cX5_withoutGroups 7 = .ok (.iload_n 2, 1) := by decide +kernel
theorem dX5_withoutGroups_8 : decode cX5_withoutGroups 8 = .ok (.if_icmp .ge 15, 3) := by decide +kernel
theorem dX5_withoutGroups_11 : decode cX5_withoutGroups 11 = .ok (.lload_n 3, 1) := by decide +kernel
theorem dX5_withoutGroups_12 : decode cX5_withoutGroups 12 = .ok (.ldc2_w 235, 3) := by decide +kernel
theorem dX5_withoutGroups_15 : decode cX5_withoutGroups 15 = .ok (.ldiv, 1) := by decide +kernel
theorem dX5_withoutGroups_16 : decode cX5_withoutGroups 16 = .ok (.lstore_n 3, 1) := by decide +kernel
theorem dX5_withoutGroups_17 : decode cX5_withoutGroups 17 = .ok (.iinc 5 1, 3) := by decide +kernel
theorem dX5_withoutGroups_20 : decode cX5_withoutGroups 20 = .ok (.goto (-15), 3) := by decide +kernel
theorem dX5_withoutGroups_23 : decode cX5_withoutGroups 23 = .ok (.lload_n 3, 1) := by decide +kernel
theorem dX5_withoutGroups_24 : decode cX5_withoutGroups 24 = .ok (.lreturn, 1) := by decide +kernel
set_option maxRecDepth 20000 in
theorem ggX5_simulate_X1_copyFrom_h : GoodIn wsX5_simulate [.code yX1_copyFrom cX1_copyFrom 3 none] := goodIn_r _ [16] (by decide +kernel) (by decide +kernel)
set_option maxRecDepth 20000 in
theorem ggX5_simulate_X1_copyFrom_0 : GoodIn wsX5_simulate wsX1_copyFrom_r1 := goodIn_r _ [17, 18, 19, 20, 21, 22, 23, 24, 25, 26, 27, 28, 29, 30, 31, 32, 15, 33, 34, 35, 36, 37, 38, 39] (by decide +kernel) (by decide +kernel)
set_option maxRecDepth 20000 in
theorem ggX5_simulate_X1_copyFrom_1 : GoodIn wsX5_simulate wsX1_copyFrom_r2 := goodIn_r _ [40, 41, 42, 43, 44, 45, 46, 47, 48, 49, 50, 51, 52, 53, 54, 55, 56, 57, 58, 59, 60, 61, 62, 63] (by decide +kernel) (by decide +kernel)
set_option maxRecDepth 20000 in
theorem ggX5_simulate_X1_copyFrom_2 : GoodIn wsX5_simulate wsX1_copyFrom_r3 := goodIn_r _ [64] (by decide +kernel) (by decide +kernel)
set_option maxRecDepth 20000 in
theorem ggX5_simulate_X1_copyFrom_3 : GoodIn wsX5_simulate wsX10 := goodIn_r _ [214, 215, 216, 217, 218, 219, 220, 221, 222, 223, 224] (by decide +kernel) (by decide +kernel)
set_option maxRecDepth 20000 in
theorem ggX5_simulate_X1_copyFrom_4 : GoodIn wsX5_simulate wsX30 := goodIn_r _ [225, 226, 227, 228, 229] (by decide +kernel) (by decide +kernel)
set_option maxRecDepth 20000 in
theorem ggX5_simulate_X1_copyFrom_5 : GoodIn wsX5_simulate wsX40 := goodIn_r _ [230, 231, 232, 233, 234, 235, 236, 237, 238] (by decide +kernel) (by decide +kernel)
set_option maxRecDepth 20000 in
theorem ggX5_simulate_X1_copyFrom : GoodIn wsX5_simulate wsX1_copyFrom := goodIn_c1 ggX5_simulate_X1_copyFrom_h (goodIn_app (goodIn_app (goodIn_app (goodIn_app ggX5_simulate_X1_copyFrom_0 (goodIn_app ggX5_simulate_X1_copyFrom_1 ggX5_simulate_X1_copyFrom_2)) ggX5_simulate_X1_copyFrom_3) ggX5_simulate_X1_copyFrom_4) ggX5_simulate_X1_copyFrom_5)
set_option maxRecDepth 20000 in
theorem gX5_simulate_X1_copyFrom : GoodIn wsX5_simulate (wsV RX5 232 RX1 yX1_copyFrom wsX1_copyFrom) := goodIn_app (goodIn_of _ (by decide +kernel)) ggX5_simulate_X1_copyFrom
set_option maxRecDepth 20000 in
theorem ggX5_simulate_X1_takeTurn_h : GoodIn wsX5_simulate [.code yX1_takeTurn cX1_takeTurn 7 none] := goodIn_r _ [68] (by decide +kernel) (by decide +kernel)
set_option maxRecDepth 20000 in
theorem ggX5_simulate_X1_takeTurn_0 : GoodIn wsX5_simulate wsX1_takeTurn_r1 := goodIn_r _ [17, 69, 70, 10, 71, 18, 72, 73, 74, 15, 75, 19, 76, 77, 78, 79, 80, 81, 82, 83, 84, 85, 86, 87] (by decide +kernel) (by decide +kernel)
set_option maxRecDepth 20000 in
theorem ggX5_simulate_X1_takeTurn_1 : GoodIn wsX5_simulate wsX1_takeTurn_r2 := goodIn_r _ [30, 31, 32, 33, 28, 34, 46, 47, 48, 49, 29, 50, 88, 89, 90, 54, 91, 56, 57, 58, 59, 60, 61, 62] (by decide +kernel) (by decide +kernel)
set_option maxRecDepth 20000 in
theorem ggX5_simulate_X1_takeTurn_2 : GoodIn wsX5_simulate wsX1_takeTurn_r3 := goodIn_r _ [63, 64, 92, 93, 94, 38, 95, 43, 44, 96, 97, 98, 99, 100, 101, 102, 20, 103, 104, 105, 106, 107, 108, 109] (by decide +kernel) (by decide +kernel)
set_option maxRecDepth 20000 in
theorem ggX5_simulate_X1_takeTurn_3 : GoodIn wsX5_simulate wsX1_takeTurn_r4 := goodIn_r _ [110, 111, 112, 113, 114, 115, 116, 117, 118, 119, 120, 121, 122, 123, 124, 125, 126, 127, 128, 23, 129, 130, 131, 132] (by decide +kernel) (by decide +kernel)
set_option maxRecDepth 20000 in
theorem ggX5_simulate_X1_takeTurn_4 : GoodIn wsX5_simulate wsX1_takeTurn_r5 := goodIn_r _ [133, 134, 135, 136, 137, 138, 139, 140, 141, 9, 11, 142, 21, 143, 144, 145, 146, 147, 148, 149, 150, 151, 152, 153] (by decide +kernel) (by decide +kernel)
set_option maxRecDepth 20000 in
theorem ggX5_simulate_X1_takeTurn_5 : GoodIn wsX5_simulate wsX1_takeTurn_r6 := goodIn_r _ [154, 155, 156, 157, 158, 159, 160, 22, 161, 162, 163, 164, 165, 166, 167, 168, 169, 170, 171, 172, 173, 174, 175, 176] (by decide +kernel) (by decide +kernel)
set_option maxRecDepth 20000 in
theorem ggX5_simulate_X1_takeTurn_6 : GoodIn wsX5_simulate wsX1_takeTurn_r7 := goodIn_r _ [177, 178, 179, 180, 181, 182, 183, 184, 185, 186, 187, 188, 189] (by decide +kernel) (by decide +kernel)
set_option maxRecDepth 20000 in
theorem ggX5_simulate_X1_takeTurn_7 : GoodIn wsX5_simulate wsX10 := goodIn_r _ [214, 215, 216, 217, 218, 219, 220, 221, 222, 223, 224] (by decide +kernel) (by decide +kernel)
set_option maxRecDepth 20000 in
theorem ggX5_simulate_X1_takeTurn_8 : GoodIn wsX5_simulate wsX30 := goodIn_r _ [225, 226, 227, 228, 229] (by decide +kernel) (by decide +kernel)
set_option maxRecDepth 20000 in
theorem ggX5_simulate_X1_takeTurn_9 : GoodIn wsX5_simulate wsX40 := goodIn_r _ [230, 231, 232, 233, 234, 235, 236, 237, 238] (by decide +kernel) (by decide +kernel)
set_option maxRecDepth 20000 in
theorem ggX5_simulate_X1_takeTurn : GoodIn wsX5_simulate wsX1_takeTurn := goodIn_c1 ggX5_simulate_X1_takeTurn_h (goodIn_app (goodIn_app (goodIn_app (goodIn_app ggX5_simulate_X1_takeTurn_0 (goodIn_app ggX5_simulate_X1_takeTurn_1 (goodIn_app ggX5_simulate_X1_takeTurn_2 (goodIn_app ggX5_simulate_X1_takeTurn_3 (goodIn_app ggX5_simulate_X1_takeTurn_4 (goodIn_app ggX5_simulate_X1_takeTurn_5 ggX5_simulate_X1_takeTurn_6)))))) ggX5_simulate_X1_takeTurn_7) ggX5_simulate_X1_takeTurn_8) ggX5_simulate_X1_takeTurn_9)
set_option maxRecDepth 20000 in
theorem gX5_simulate_X1_takeTurn : GoodIn wsX5_simulate (wsV RX5 246 RX1 yX1_takeTurn wsX1_takeTurn) := goodIn_app (goodIn_of _ (by decide +kernel)) ggX5_simulate_X1_takeTurn
set_option maxRecDepth 20000 in
theorem ggX5_simulate_X1_letPass_h : GoodIn wsX5_simulate [.code yX1_letPass cX1_letPass 5 (some .int)] := goodIn_r _ [193] (by decide +kernel) (by decide +kernel)
set_option maxRecDepth 20000 in
theorem ggX5_simulate_X1_letPass_0 : GoodIn wsX5_simulate wsX1_letPass_r1 := goodIn_r _ [19, 17, 194, 195, 196, 15, 197, 18, 107, 108, 109, 110, 111, 112, 113, 114, 115, 116, 46, 47, 48, 49, 29, 50] (by decide +kernel) (by decide +kernel)
set_option maxRecDepth 20000 in
theorem ggX5_simulate_X1_letPass_1 : GoodIn wsX5_simulate wsX1_letPass_r2 := goodIn_r _ [30, 31, 32, 33, 28, 34, 198, 199, 200, 201, 80, 177, 202, 203, 148, 149, 150, 38, 151, 44, 133, 134, 135, 136] (by decide +kernel) (by decide +kernel)
set_option maxRecDepth 20000 in
theorem ggX5_simulate_X1_letPass_2 : GoodIn wsX5_simulate wsX1_letPass_r3 := goodIn_r _ [43, 169, 170, 171, 54, 172, 57, 58, 165, 166, 167, 168, 204, 205, 206, 207, 23, 156, 157, 158, 159, 101, 160, 22] (by decide +kernel) (by decide +kernel)
set_option maxRecDepth 20000 in
theorem ggX5_simulate_X1_letPass_3 : GoodIn wsX5_simulate wsX10 := goodIn_r _ [214, 215, 216, 217, 218, 219, 220, 221, 222, 223, 224] (by decide +kernel) (by decide +kernel)
set_option maxRecDepth 20000 in
theorem ggX5_simulate_X1_letPass_4 : GoodIn wsX5_simulate wsX40 := goodIn_r _ [230, 231, 232, 233, 234, 235, 236, 237, 238] (by decide +kernel) (by decide +kernel)
set_option maxRecDepth 20000 in
theorem ggX5_simulate_X1_letPass_5 : GoodIn wsX5_simulate wsX30 := goodIn_r _ [225, 226, 227, 228, 229] (by decide +kernel) (by decide +kernel)
set_option maxRecDepth 20000 in
theorem ggX5_simulate_X1_letPass : GoodIn wsX5_simulate wsX1_letPass := goodIn_c1 ggX5_simulate_X1_letPass_h (goodIn_app (goodIn_app (goodIn_app (goodIn_app ggX5_simulate_X1_letPass_0 (goodIn_app ggX5_simulate_X1_letPass_1 ggX5_simulate_X1_letPass_2)) ggX5_simulate_X1_letPass_3) ggX5_simulate_X1_letPass_4) ggX5_simulate_X1_letPass_5)
set_option maxRecDepth 20000 in
theorem gX5_simulate_X1_letPass : GoodIn wsX5_simulate (wsV RX5 178 RX1 yX1_letPass wsX1_letPass) := goodIn_app (goodIn_of _ (by decide +kernel)) ggX5_simulate_X1_letPass
theorem dX5_simulate_0 : decode cX5_simulate 0 = .ok (.iload_n 3, 1) := by decide +kernel
theorem dX5_simulate_1 : decode cX5_simulate 1 = .ok (.iconst 1, 1) := by decide +kernel
theorem dX5_simulate_2 : decode cX5_simulate 2 = .ok (.if_icmp .lt 9, 3) := by decide +kernel
theorem dX5_simulate_5 : decode cX5_simulate 5 = .ok (.iload_n 3, 1) := by decide +kernel
theorem dX5_simulate_6 : decode cX5_simulate 6 = .ok (.bipush 99, 2) := by decide +kernel
theorem dX5_simulate_8 : decode cX5_simulate 8 = .ok (.if_icmp .le 13, 3) := by decide +kernel
theorem dX5_simulate_11 : decode cX5_simulate 11 = .ok (.new 48, 3) := by decide +kernel
theorem dX5_simulate_14 : decode cX5_simulate 14 = .ok (.dup, 1) := by decide +kernel
theorem dX5_simulate_15 : decode cX5_simulate 15 = .ok (.ldc 240, 2) := by decide +kernel
theorem dX5_simulate_17 : decode cX5_simulate 17 = .ok (.invokespecial 52, 3) := by decide +kernel
theorem dX5_simulate_20 : decode cX5_simulate 20 = .ok (.athrow, 1) := by decide +kernel
theorem dX5_simulate_21 : decode cX5_simulate 21 = .ok (.aload_n 0, 1) := by decide +kernel
theorem dX5_simulate_22 : decode cX5_simulate 22 = .ok (.getfield 23, 3) := by decide +kernel
