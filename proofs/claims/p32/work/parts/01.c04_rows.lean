set_option maxRecDepth 20000 in
theorem ggX5_gain_X5_requireTrade : GoodIn wsX5_gain wsX5_requireTrade := goodIn_ca (goodIn_ca (goodIn_r _ [6, 7, 8, 1, 9, 10, 11, 5, 12, 13, 14, 15, 16, 17, 18, 19, 20, 21, 22, 23, 24, 25, 26, 27, 28, 29, 30, 31, 32, 33, 34, 35, 36, 37, 38, 39, 40, 41, 42, 43, 44, 45, 46, 47, 48, 49, 50, 51, 52, 53, 54, 55, 56, 57, 58, 59, 60, 61, 72, 73, 74, 75, 76, 77, 78, 79, 80, 81, 82, 83, 84, 85, 86, 87, 88, 89, 90, 91, 92, 93, 94, 95, 96, 97, 98, 99, 100, 101, 102] (by decide +kernel) (by decide +kernel)) (goodIn_sub (fun _ h => List.mem_cons_of_mem _ (List.mem_append_left _ (List.mem_append_right _ h))) (by decide +kernel))) (goodIn_sub (fun _ h => List.mem_cons_of_mem _ (List.mem_append_right _ h)) (by decide +kernel))
set_option maxRecDepth 20000 in
theorem gX5_gain_X5_requireTrade : GoodIn wsX5_gain (wsV RX5 155 RX5 yX5_requireTrade wsX5_requireTrade) := goodIn_app (goodIn_of _ (by decide +kernel)) ggX5_gain_X5_requireTrade
set_option maxRecDepth 20000 in
theorem ggX5_gain_X1_profit : GoodIn wsX5_gain wsX1_profit := goodIn_r _ [65, 25, 34, 35, 36, 18, 37, 38, 39, 44, 45, 46, 47, 48, 49, 40, 41, 42, 43, 50, 51, 52, 53, 54, 55, 56, 66, 67, 68, 69, 70, 71, 57, 58, 59, 60, 61, 89, 90, 91, 92, 93, 94, 95, 96, 97, 78, 79, 80, 81, 82, 83, 84, 85, 86, 87, 88, 98, 99, 100, 101, 102] (by decide +kernel) (by decide +kernel)
set_option maxRecDepth 20000 in
theorem gX5_gain_X1_profit : GoodIn wsX5_gain (wsV RX5 209 RX1 yX1_profit wsX1_profit) := goodIn_app (goodIn_of _ (by decide +kernel)) ggX5_gain_X1_profit
theorem dX5_gain_0 : decode cX5_gain 0 = .ok (.aload_n 0, 1) := by decide +kernel
theorem dX5_gain_1 : decode cX5_gain 1 = .ok (.iload_n 1, 1) := by decide +kernel
theorem dX5_gain_2 : decode cX5_gain 2 = .ok (.iload_n 2, 1) := by decide +kernel
theorem dX5_gain_3 : decode cX5_gain 3 = .ok (.invokevirtual 155, 3) := by decide +kernel
theorem dX5_gain_6 : decode cX5_gain 6 = .ok (.aload_n 0, 1) := by decide +kernel
theorem dX5_gain_7 : decode cX5_gain 7 = .ok (.getfield 10, 3) := by decide +kernel
theorem dX5_gain_10 : decode cX5_gain 10 = .ok (.iload_n 1, 1) := by decide +kernel
theorem dX5_gain_11 : decode cX5_gain 11 = .ok (.iload_n 2, 1) := by decide +kernel
theorem dX5_gain_12 : decode cX5_gain 12 = .ok (.invokevirtual 209, 3) := by decide +kernel
theorem dX5_gain_15 : decode cX5_gain 15 = .ok (.ireturn, 1) := by decide +kernel
set_option maxRecDepth 20000 in
theorem ggX5_partner_X5_requirePerson : GoodIn wsX5_partner wsX5_requirePerson := goodIn_ca (goodIn_r _ [6, 7, 8, 1, 9, 10, 11, 12, 13, 14, 70, 71, 72, 73, 74, 75, 76, 77, 78, 79, 80, 81, 82, 83, 84, 85, 86] (by decide +kernel) (by decide +kernel)) (goodIn_sub (fun _ h => List.mem_cons_of_mem _ (List.mem_append_right _ h)) (by decide +kernel))
set_option maxRecDepth 20000 in
theorem gX5_partner_X5_requirePerson : GoodIn wsX5_partner (wsV RX5 109 RX5 yX5_requirePerson wsX5_requirePerson) := goodIn_app (goodIn_of _ (by decide +kernel)) ggX5_partner_X5_requirePerson
set_option maxRecDepth 20000 in
theorem ggX5_partner_X1_bestPartner : GoodIn wsX5_partner wsX1_bestPartner := goodIn_r _ [18, 14, 19, 20, 21, 12, 22, 23, 24, 25, 26, 27, 28, 29, 30, 31, 10, 11, 13, 32, 33, 34, 35, 36, 37, 38, 39, 40, 41, 42, 43, 44, 45, 46, 47, 48, 49, 50, 51, 52, 53, 54, 55, 56, 57, 58, 59, 60, 61, 62, 63, 64, 65, 66, 67, 68, 69, 76, 77, 78, 79, 80, 81, 82, 83, 84, 85, 86, 87, 88, 89, 90, 91, 92, 93, 94, 95, 96, 97, 98, 99, 100] (by decide +kernel) (by decide +kernel)
set_option maxRecDepth 20000 in
theorem gX5_partner_X1_bestPartner : GoodIn wsX5_partner (wsV RX5 212 RX1 yX1_bestPartner wsX1_bestPartner) := goodIn_app (goodIn_of _ (by decide +kernel)) ggX5_partner_X1_bestPartner
theorem dX5_partner_0 : decode cX5_partner 0 = .ok (.aload_n 0, 1) := by decide +kernel
theorem dX5_partner_1 : decode cX5_partner 1 = .ok (.iload_n 1, 1) := by decide +kernel
theorem dX5_partner_2 : decode cX5_partner 2 = .ok (.invokevirtual 109, 3) := by decide +kernel
theorem dX5_partner_5 : decode cX5_partner 5 = .ok (.aload_n 0, 1) := by decide +kernel
theorem dX5_partner_6 : decode cX5_partner 6 = .ok (.getfield 10, 3) := by decide +kernel
theorem dX5_partner_9 : decode cX5_partner 9 = .ok (.iload_n 1, 1) := by decide +kernel
theorem dX5_partner_10 : decode cX5_partner 10 = .ok (.invokevirtual 212, 3) := by decide +kernel
theorem dX5_partner_13 : decode cX5_partner 13 = .ok (.ireturn, 1) := by decide +kernel
set_option maxRecDepth 20000 in
theorem ggX5_requireLine_X1_isLine : GoodIn wsX5_requireLine wsX1_isLine := goodIn_r _ [8, 9, 16, 17, 18, 19, 20, 21, 22, 23, 24, 25, 26] (by decide +kernel) (by decide +kernel)
set_option maxRecDepth 20000 in
theorem gX5_requireLine_X1_isLine : GoodIn wsX5_requireLine (wsV RX5 266 RX1 yX1_isLine wsX1_isLine) := goodIn_app (goodIn_of _ (by decide +kernel)) ggX5_requireLine_X1_isLine
theorem dX5_requireLine_0 : decode cX5_requireLine 0 = .ok (.aload_n 0, 1) := by decide +kernel
theorem dX5_requireLine_1 : decode cX5_requireLine 1 = .ok (.getfield 10, 3) := by decide +kernel
theorem dX5_requireLine_4 : decode cX5_requireLine 4 = .ok (.iload_n 1, 1) := by decide +kernel
theorem dX5_requireLine_5 : decode cX5_requireLine 5 = .ok (.invokevirtual 266, 3) := by decide +kernel
theorem dX5_requireLine_8 : decode cX5_requireLine 8 = .ok (.ifCond .ne 14, 3) := by decide +kernel
theorem dX5_requireLine_11 : decode cX5_requireLine 11 = .ok (.new 269, 3) := by decide +kernel
theorem dX5_requireLine_14 : decode cX5_requireLine 14 = .ok (.dup, 1) := by decide +kernel
theorem dX5_requireLine_15 : decode cX5_requireLine 15 = .ok (.ldc_w 271, 3) := by decide +kernel
theorem dX5_requireLine_18 : decode cX5_requireLine 18 = .ok (.invokespecial 273, 3) := by decide +kernel
theorem dX5_requireLine_21 : decode cX5_requireLine 21 = .ok (.athrow, 1) := by decide +kernel
theorem dX5_requireLine_22 : decode cX5_requireLine 22 = .ok (.return_, 1) := by decide +kernel
set_option maxRecDepth 20000 in
theorem ggX5_requirePerson_X1_isPerson : GoodIn wsX5_requirePerson wsX1_isPerson := goodIn_r _ [8, 9, 16, 17, 18, 19, 20, 21, 22, 23, 24, 25, 26] (by decide +kernel) (by decide +kernel)
set_option maxRecDepth 20000 in
theorem gX5_requirePerson_X1_isPerson : GoodIn wsX5_requirePerson (wsV RX5 274 RX1 yX1_isPerson wsX1_isPerson) := goodIn_app (goodIn_of _ (by decide +kernel)) ggX5_requirePerson_X1_isPerson
theorem dX5_requirePerson_0 : decode cX5_requirePerson 0 = .ok (.aload_n 0, 1) := by decide +kernel
theorem dX5_requirePerson_1 : decode cX5_requirePerson 1 = .ok (.getfield 10, 3) := by decide +kernel
theorem dX5_requirePerson_4 : decode cX5_requirePerson 4 = .ok (.iload_n 1, 1) := by decide +kernel
theorem dX5_requirePerson_5 : decode cX5_requirePerson 5 = .ok (.invokevirtual 274, 3) := by decide +kernel
theorem dX5_requirePerson_8 : decode cX5_requirePerson 8 = .ok (.ifCond .ne 14, 3) := by decide +kernel
theorem dX5_requirePerson_11 : decode cX5_requirePerson 11 = .ok (.new 269, 3) := by decide +kernel
theorem dX5_requirePerson_14 : decode cX5_requirePerson 14 = .ok (.dup, 1) := by decide +kernel
theorem dX5_requirePerson_15 : decode cX5_requirePerson 15 = .ok (.ldc_w 277, 3) := by decide +kernel
theorem dX5_requirePerson_18 : decode cX5_requirePerson 18 = .ok (.invokespecial 273, 3) := by decide +kernel
theorem dX5_requirePerson_21 : decode cX5_requirePerson 21 = .ok (.athrow, 1) := by decide +kernel
theorem dX5_requirePerson_22 : decode cX5_requirePerson 22 = .ok (.return_, 1) := by decide +kernel
set_option maxRecDepth 20000 in
theorem ggX5_requireStanding_X5_requirePerson : GoodIn wsX5_requireStanding wsX5_requirePerson := goodIn_ca (goodIn_r _ [8, 9, 10, 3, 11, 12, 13, 14, 15, 16, 29, 30, 31, 32, 33, 34, 35, 36, 37, 38, 39, 40, 41, 42, 43, 44, 45] (by decide +kernel) (by decide +kernel)) (goodIn_sub (fun _ h => List.mem_cons_of_mem _ (List.mem_append_right _ h)) (by decide +kernel))
set_option maxRecDepth 20000 in
theorem gX5_requireStanding_X5_requirePerson : GoodIn wsX5_requireStanding (wsV RX5 109 RX5 yX5_requirePerson wsX5_requirePerson) := goodIn_app (goodIn_of _ (by decide +kernel)) ggX5_requireStanding_X5_requirePerson
set_option maxRecDepth 20000 in
theorem ggX5_requireStanding_X1_stands : GoodIn wsX5_requireStanding wsX1_stands := goodIn_r _ [20, 21, 22, 12, 13, 14, 15, 16, 23, 24, 25, 26, 27, 28, 46, 47, 48, 49, 50, 51, 52, 53, 54, 35, 36, 37, 38, 39, 40, 41, 42, 43, 44, 45] (by decide +kernel) (by decide +kernel)
set_option maxRecDepth 20000 in
theorem gX5_requireStanding_X1_stands : GoodIn wsX5_requireStanding (wsV RX5 279 RX1 yX1_stands wsX1_stands) := goodIn_app (goodIn_of _ (by decide +kernel)) ggX5_requireStanding_X1_stands
theorem dX5_requireStanding_0 : decode cX5_requireStanding 0 = .ok (.aload_n 0, 1) := by decide +kernel
theorem dX5_requireStanding_1 : decode cX5_requireStanding 1 = .ok (.iload_n 1, 1) := by decide +kernel
theorem dX5_requireStanding_2 : decode cX5_requireStanding 2 = .ok (.invokevirtual 109, 3) := by decide +kernel
theorem dX5_requireStanding_5 : decode cX5_requireStanding 5 = .ok (.aload_n 0, 1) := by decide +kernel
theorem dX5_requireStanding_6 : decode cX5_requireStanding 6 = .ok (.getfield 10, 3) := by decide +kernel
theorem dX5_requireStanding_9 : decode cX5_requireStanding 9 = .ok (.iload_n 1, 1) := by decide +kernel
theorem dX5_requireStanding_10 : decode cX5_requireStanding 10 = .ok (.invokevirtual 279, 3) := by decide +kernel
theorem dX5_requireStanding_13 : decode cX5_requireStanding 13 = .ok (.ifCond .ne 14, 3) := by decide +kernel
theorem dX5_requireStanding_16 : decode cX5_requireStanding 16 = .ok (.new 59, 3) := by decide +kernel
theorem dX5_requireStanding_19 : decode cX5_requireStanding 19 = .ok (.dup, 1) := by decide +kernel
theorem dX5_requireStanding_20 : decode cX5_requireStanding 20 = .ok (.ldc_w 282, 3) := by decide +kernel
theorem dX5_requireStanding_23 : decode cX5_requireStanding 23 = .ok (.invokespecial 63, 3) := by decide +kernel
theorem dX5_requireStanding_26 : decode cX5_requireStanding 26 = .ok (.athrow, 1) := by decide +kernel
theorem dX5_requireStanding_27 : decode cX5_requireStanding 27 = .ok (.return_, 1) := by decide +kernel
theorem dX5_requireSetting_0 : decode cX5_requireSetting 0 = .ok (.iload_n 0, 1) := by decide +kernel
theorem dX5_requireSetting_1 : decode cX5_requireSetting 1 = .ok (.ifCond .lt 8, 3) := by decide +kernel
theorem dX5_requireSetting_4 : decode cX5_requireSetting 4 = .ok (.iload_n 0, 1) := by decide +kernel
theorem dX5_requireSetting_5 : decode cX5_requireSetting 5 = .ok (.iconst 4, 1) := by decide +kernel
theorem dX5_requireSetting_6 : decode cX5_requireSetting 6 = .ok (.if_icmp .lt 14, 3) := by decide +kernel
theorem dX5_requireSetting_9 : decode cX5_requireSetting 9 = .ok (.new 48, 3) := by decide +kernel
theorem dX5_requireSetting_12 : decode cX5_requireSetting 12 = .ok (.dup, 1) := by decide +kernel
theorem dX5_requireSetting_13 : decode cX5_requireSetting 13 = .ok (.ldc_w 284, 3) := by decide +kernel
theorem dX5_requireSetting_16 : decode cX5_requireSetting 16 = .ok (.invokespecial 52, 3) := by decide +kernel
theorem dX5_requireSetting_19 : decode cX5_requireSetting 19 = .ok (.athrow, 1) := by decide +kernel
theorem dX5_requireSetting_20 : decode cX5_requireSetting 20 = .ok (.return_, 1) := by decide +kernel
set_option maxRecDepth 20000 in
theorem ggX5_requireTrade_X5_requirePerson : GoodIn wsX5_requireTrade wsX5_requirePerson := goodIn_ca (goodIn_r _ [8, 9, 10, 3, 11, 12, 13, 14, 15, 16, 58, 59, 60, 61, 62, 63, 64, 65, 66, 67, 68, 69, 70, 71, 72, 73, 74] (by decide +kernel) (by decide +kernel)) (goodIn_sub (fun _ h => List.mem_cons_of_mem _ (List.mem_append_right _ h)) (by decide +kernel))
set_option maxRecDepth 20000 in
theorem gX5_requireTrade_X5_requirePerson : GoodIn wsX5_requireTrade (wsV RX5 109 RX5 yX5_requirePerson wsX5_requirePerson) := goodIn_app (goodIn_of _ (by decide +kernel)) ggX5_requireTrade_X5_requirePerson
set_option maxRecDepth 20000 in
theorem ggX5_requireTrade_X1_mayTrade : GoodIn wsX5_requireTrade wsX1_mayTrade := goodIn_r _ [20, 21, 22, 23, 24, 25, 26, 14, 27, 28, 29, 12, 13, 15, 16, 30, 31, 32, 33, 34, 35, 36, 37, 38, 39, 40, 41, 42, 43, 44, 45, 46, 47, 48, 49, 50, 51, 52, 53, 54, 55, 56, 57, 75, 76, 77, 78, 79, 80, 81, 82, 83, 64, 65, 66, 67, 68, 69, 70, 71, 72, 73, 74, 84, 85, 86, 87, 88] (by decide +kernel) (by decide +kernel)
set_option maxRecDepth 20000 in
theorem gX5_requireTrade_X1_mayTrade : GoodIn wsX5_requireTrade (wsV RX5 288 RX1 yX1_mayTrade wsX1_mayTrade) := goodIn_app (goodIn_of _ (by decide +kernel)) ggX5_requireTrade_X1_mayTrade
theorem dX5_requireTrade_0 : decode cX5_requireTrade 0 = .ok (.aload_n 0, 1) := by decide +kernel
theorem dX5_requireTrade_1 : decode cX5_requireTrade 1 = .ok (.iload_n 1, 1) := by decide +kernel
theorem dX5_requireTrade_2 : decode cX5_requireTrade 2 = .ok (.invokevirtual 109, 3) := by decide +kernel
theorem dX5_requireTrade_5 : decode cX5_requireTrade 5 = .ok (.aload_n 0, 1) := by decide +kernel
theorem dX5_requireTrade_6 : decode cX5_requireTrade 6 = .ok (.iload_n 2, 1) := by decide +kernel
theorem dX5_requireTrade_7 : decode cX5_requireTrade 7 = .ok (.invokevirtual 109, 3) := by decide +kernel
theorem dX5_requireTrade_10 : decode cX5_requireTrade 10 = .ok (.aload_n 0, 1) := by decide +kernel
theorem dX5_requireTrade_11 : decode cX5_requireTrade 11 = .ok (.getfield 10, 3) := by decide +kernel
theorem dX5_requireTrade_14 : decode cX5_requireTrade 14 = .ok (.iload_n 1, 1) := by decide +kernel
theorem dX5_requireTrade_15 : decode cX5_requireTrade 15 = .ok (.iload_n 2, 1) := by decide +kernel
theorem dX5_requireTrade_16 : decode cX5_requireTrade 16 = .ok (.invokevirtual 288, 3) := by decide +kernel
theorem dX5_requireTrade_19 : decode cX5_requireTrade 19 = .ok (.ifCond .ne 14, 3) := by decide +kernel
theorem dX5_requireTrade_22 : decode cX5_requireTrade 22 = .ok (.new 59, 3) := by decide +kernel
theorem dX5_requireTrade_25 : decode cX5_requireTrade 25 = .ok (.dup, 1) := by decide +kernel
theorem dX5_requireTrade_26 : decode cX5_requireTrade 26 = .ok (.ldc_w 291, 3) := by decide +kernel
theorem dX5_requireTrade_29 : decode cX5_requireTrade 29 = .ok (.invokespecial 63, 3) := by decide +kernel
theorem dX5_requireTrade_32 : decode cX5_requireTrade 32 = .ok (.athrow, 1) := by decide +kernel
theorem dX5_requireTrade_33 : decode cX5_requireTrade 33 = .ok (.return_, 1) := by decide +kernel
set_option maxRecDepth 20000 in
theorem ggX5_requireUnion_X5_requireLine : GoodIn wsX5_requireUnion wsX5_requireLine := goodIn_ca (goodIn_r _ [10, 11, 12, 5, 13, 14, 15, 16, 17, 18, 31, 32, 33, 34, 35, 36, 37, 38, 39, 40, 41, 42, 43, 44, 45, 46, 47] (by decide +kernel) (by decide +kernel)) (goodIn_sub (fun _ h => List.mem_cons_of_mem _ (List.mem_append_right _ h)) (by decide +kernel))
set_option maxRecDepth 20000 in
theorem gX5_requireUnion_X5_requireLine : GoodIn wsX5_requireUnion (wsV RX5 88 RX5 yX5_requireLine wsX5_requireLine) := goodIn_app (goodIn_of _ (by decide +kernel)) ggX5_requireUnion_X5_requireLine
set_option maxRecDepth 20000 in
theorem ggX5_requireUnion_X1_mayUnite : GoodIn wsX5_requireUnion wsX1_mayUnite := goodIn_r _ [22, 23, 24, 14, 15, 16, 17, 18, 25, 26, 27, 28, 29, 30, 48, 49, 50, 51, 52, 37, 38, 39, 40, 41, 42, 43, 44, 45, 46, 47] (by decide +kernel) (by decide +kernel)
set_option maxRecDepth 20000 in
theorem gX5_requireUnion_X1_mayUnite : GoodIn wsX5_requireUnion (wsV RX5 295 RX1 yX1_mayUnite wsX1_mayUnite) := goodIn_app (goodIn_of _ (by decide +kernel)) ggX5_requireUnion_X1_mayUnite
theorem dX5_requireUnion_0 : decode cX5_requireUnion 0 = .ok (.aload_n 0, 1) := by decide +kernel
theorem dX5_requireUnion_1 : decode cX5_requireUnion 1 = .ok (.iload_n 1, 1) := by decide +kernel
theorem dX5_requireUnion_2 : decode cX5_requireUnion 2 = .ok (.invokevirtual 88, 3) := by decide +kernel
theorem dX5_requireUnion_5 : decode cX5_requireUnion 5 = .ok (.aload_n 0, 1) := by decide +kernel
theorem dX5_requireUnion_6 : decode cX5_requireUnion 6 = .ok (.iload_n 2, 1) := by decide +kernel
theorem dX5_requireUnion_7 : decode cX5_requireUnion 7 = .ok (.invokevirtual 88, 3) := by decide +kernel
theorem dX5_requireUnion_10 : decode cX5_requireUnion 10 = .ok (.iload_n 1, 1) := by decide +kernel
theorem dX5_requireUnion_11 : decode cX5_requireUnion 11 = .ok (.iload_n 2, 1) := by decide +kernel
theorem dX5_requireUnion_12 : decode cX5_requireUnion 12 = .ok (.if_icmp .ne 14, 3) := by decide +kernel
theorem dX5_requireUnion_15 : decode cX5_requireUnion 15 = .ok (.new 48, 3) := by decide +kernel
theorem dX5_requireUnion_18 : decode cX5_requireUnion 18 = .ok (.dup, 1) := by decide +kernel
theorem dX5_requireUnion_19 : decode cX5_requireUnion 19 = .ok (.ldc_w 293, 3) := by decide +kernel
theorem dX5_requireUnion_22 : decode cX5_requireUnion 22 = .ok (.invokespecial 52, 3) := by decide +kernel
theorem dX5_requireUnion_25 : decode cX5_requireUnion 25 = .ok (.athrow, 1) := by decide +kernel
theorem dX5_requireUnion_26 : decode cX5_requireUnion 26 = .ok (.aload_n 0, 1) := by decide +kernel
theorem dX5_requireUnion_27 : decode cX5_requireUnion 27 = .ok (.getfield 10, 3) := by decide +kernel
theorem dX5_requireUnion_30 : decode cX5_requireUnion 30 = .ok (.iload_n 1, 1) := by decide +kernel
theorem dX5_requireUnion_31 : decode cX5_requireUnion 31 = .ok (.iload_n 2, 1) := by decide +kernel
theorem dX5_requireUnion_32 : decode cX5_requireUnion 32 = .ok (.invokevirtual 295, 3) := by decide +kernel
theorem dX5_requireUnion_35 : decode cX5_requireUnion 35 = .ok (.ifCond .ne 14, 3) := by decide +kernel
theorem dX5_requireUnion_38 : decode cX5_requireUnion 38 = .ok (.new 59, 3) := by decide +kernel
theorem dX5_requireUnion_41 : decode cX5_requireUnion 41 = .ok (.dup, 1) := by decide +kernel
theorem dX5_requireUnion_42 : decode cX5_requireUnion 42 = .ok (.ldc_w 298, 3) := by decide +kernel
theorem dX5_requireUnion_45 : decode cX5_requireUnion 45 = .ok (.invokespecial 63, 3) := by decide +kernel
theorem dX5_requireUnion_48 : decode cX5_requireUnion 48 = .ok (.athrow, 1) := by decide +kernel
theorem dX5_requireUnion_49 : decode cX5_requireUnion 49 = .ok (.return_, 1) := by decide +kernel
theorem dX5_isKind_0 : decode cX5_isKind 0 = .ok (.iload_n 0, 1) := by decide +kernel
theorem dX5_isKind_1 : decode cX5_isKind 1 = .ok (.ifCond .lt 12, 3) := by decide +kernel
theorem dX5_isKind_4 : decode cX5_isKind 4 = .ok (.iload_n 0, 1) := by decide +kernel
theorem dX5_isKind_5 : decode cX5_isKind 5 = .ok (.iconst 2, 1) := by decide +kernel
theorem dX5_isKind_6 : decode cX5_isKind 6 = .ok (.if_icmp .gt 7, 3) := by decide +kernel
theorem dX5_isKind_9 : decode cX5_isKind 9 = .ok (.iconst 1, 1) := by decide +kernel
theorem dX5_isKind_10 : decode cX5_isKind 10 = .ok (.goto 4, 3) := by decide +kernel
theorem dX5_isKind_13 : decode cX5_isKind 13 = .ok (.iconst 0, 1) := by decide +kernel
theorem dX5_isKind_14 : decode cX5_isKind 14 = .ok (.ireturn, 1) := by decide +kernel
theorem dJ9_floorMod_7cf53_0 : decode cJ9_floorMod_7cf53 0 = .ok (.iload_n 0, 1) := by decide +kernel
theorem dJ9_floorMod_7cf53_1 : decode cJ9_floorMod_7cf53 1 = .ok (.iload_n 1, 1) := by decide +kernel
theorem dJ9_floorMod_7cf53_2 : decode cJ9_floorMod_7cf53 2 = .ok (.irem, 1) := by decide +kernel
theorem dJ9_floorMod_7cf53_3 : decode cJ9_floorMod_7cf53 3 = .ok (.istore_n 2, 1) := by decide +kernel
theorem dJ9_floorMod_7cf53_4 : decode cJ9_floorMod_7cf53 4 = .ok (.iload_n 0, 1) := by decide +kernel
theorem dJ9_floorMod_7cf53_5 : decode cJ9_floorMod_7cf53 5 = .ok (.iload_n 1, 1) := by decide +kernel
theorem dJ9_floorMod_7cf53_6 : decode cJ9_floorMod_7cf53 6 = .ok (.ixor, 1) := by decide +kernel
theorem dJ9_floorMod_7cf53_7 : decode cJ9_floorMod_7cf53 7 = .ok (.ifCond .ge 11, 3) := by decide +kernel
theorem dJ9_floorMod_7cf53_10 : decode cJ9_floorMod_7cf53 10 = .ok (.iload_n 2, 1) := by decide +kernel
theorem dJ9_floorMod_7cf53_11 : decode cJ9_floorMod_7cf53 11 = .ok (.ifCond .eq 7, 3) := by decide +kernel
theorem dJ9_floorMod_7cf53_14 : decode cJ9_floorMod_7cf53 14 = .ok (.iload_n 2, 1) := by decide +kernel
theorem dJ9_floorMod_7cf53_15 : decode cJ9_floorMod_7cf53 15 = .ok (.iload_n 1, 1) := by decide +kernel
theorem dJ9_floorMod_7cf53_16 : decode cJ9_floorMod_7cf53 16 = .ok (.iadd, 1) := by decide +kernel
theorem dJ9_floorMod_7cf53_17 : decode cJ9_floorMod_7cf53 17 = .ok (.ireturn, 1) := by decide +kernel
theorem dJ9_floorMod_7cf53_18 : decode cJ9_floorMod_7cf53 18 = .ok (.iload_n 2, 1) := by decide +kernel
theorem dJ9_floorMod_7cf53_19 : decode cJ9_floorMod_7cf53 19 = .ok (.ireturn, 1) := by decide +kernel
theorem dJ9_min_7cf53_0 : decode cJ9_min_7cf53 0 = .ok (.iload_n 0, 1) := by decide +kernel
theorem dJ9_min_7cf53_1 : decode cJ9_min_7cf53 1 = .ok (.iload_n 1, 1) := by decide +kernel
theorem dJ9_min_7cf53_2 : decode cJ9_min_7cf53 2 = .ok (.if_icmp .gt 7, 3) := by decide +kernel
theorem dJ9_min_7cf53_5 : decode cJ9_min_7cf53 5 = .ok (.iload_n 0, 1) := by decide +kernel
theorem dJ9_min_7cf53_6 : decode cJ9_min_7cf53 6 = .ok (.goto 4, 3) := by decide +kernel
theorem dJ9_min_7cf53_9 : decode cJ9_min_7cf53 9 = .ok (.iload_n 1, 1) := by decide +kernel
theorem dJ9_min_7cf53_10 : decode cJ9_min_7cf53 10 = .ok (.ireturn, 1) := by decide +kernel
