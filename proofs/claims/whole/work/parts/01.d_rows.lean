theorem dX1_enter_21 : decode cX1_enter 21 = .ok (.iconst 1, 1) := by decide +kernel
theorem dX1_enter_22 : decode cX1_enter 22 = .ok (.iadd, 1) := by decide +kernel
theorem dX1_enter_23 : decode cX1_enter 23 = .ok (.putfield 41, 3) := by decide +kernel
theorem dX1_enter_26 : decode cX1_enter 26 = .ok (.aload_n 0, 1) := by decide +kernel
theorem dX1_enter_27 : decode cX1_enter 27 = .ok (.iload_n 3, 1) := by decide +kernel
theorem dX1_enter_28 : decode cX1_enter 28 = .ok (.invokevirtual 73, 3) := by decide +kernel
theorem dX1_enter_31 : decode cX1_enter 31 = .ok (.iload_n 2, 1) := by decide +kernel
theorem dX1_enter_32 : decode cX1_enter 32 = .ok (.iload_n 1, 1) := by decide +kernel
theorem dX1_enter_33 : decode cX1_enter 33 = .ok (.aload_n 0, 1) := by decide +kernel
theorem dX1_enter_34 : decode cX1_enter 34 = .ok (.getfield 44, 3) := by decide +kernel
theorem dX1_enter_37 : decode cX1_enter 37 = .ok (.invokevirtual 156, 3) := by decide +kernel
theorem dX1_enter_40 : decode cX1_enter 40 = .ok (.aload_n 0, 1) := by decide +kernel
theorem dX1_enter_41 : decode cX1_enter 41 = .ok (.iload_n 1, 1) := by decide +kernel
theorem dX1_enter_42 : decode cX1_enter 42 = .ok (.invokevirtual 65, 3) := by decide +kernel
theorem dX1_enter_45 : decode cX1_enter 45 = .ok (.iload_n 3, 1) := by decide +kernel
theorem dX1_enter_46 : decode cX1_enter 46 = .ok (.invokevirtual 160, 3) := by decide +kernel
theorem dX1_enter_49 : decode cX1_enter 49 = .ok (.iload_n 3, 1) := by decide +kernel
theorem dX1_enter_50 : decode cX1_enter 50 = .ok (.ireturn, 1) := by decide +kernel
set_option maxRecDepth 20000 in
theorem ggX1_leave_X1_stands : GoodIn wsX1_leave wsX1_stands := goodIn_r _ [7, 8, 9, 10, 11, 6, 12, 13, 14, 15, 16, 17, 18, 19, 52, 53, 54, 55, 56, 57, 58, 59, 60, 61, 62, 63, 64, 65, 66, 67, 68, 69, 70, 71] (by decide +kernel) (by decide +kernel)
set_option maxRecDepth 20000 in
theorem gX1_leave_X1_stands : GoodIn wsX1_leave (wsV RX1 163 RX1 yX1_stands wsX1_stands) := goodIn_app (goodIn_of _ (by decide +kernel)) ggX1_leave_X1_stands
set_option maxRecDepth 20000 in
theorem ggX1_leave_X1_personOf : GoodIn wsX1_leave wsX1_personOf := goodIn_r _ [17, 18, 19, 61, 62, 63, 64, 65, 66, 67, 68, 69, 70, 71] (by decide +kernel) (by decide +kernel)
set_option maxRecDepth 20000 in
theorem gX1_leave_X1_personOf : GoodIn wsX1_leave (wsV RX1 73 RX1 yX1_personOf wsX1_personOf) := goodIn_app (goodIn_of _ (by decide +kernel)) ggX1_leave_X1_personOf
set_option maxRecDepth 20000 in
theorem ggX1_leave_X1_lineOf : GoodIn wsX1_leave wsX1_lineOf := goodIn_r _ [23, 24, 25, 61, 62, 63, 64, 65, 66, 67, 68, 69, 70, 71] (by decide +kernel) (by decide +kernel)
set_option maxRecDepth 20000 in
theorem gX1_leave_X1_lineOf : GoodIn wsX1_leave (wsV RX1 65 RX1 yX1_lineOf wsX1_lineOf) := goodIn_app (goodIn_of _ (by decide +kernel)) ggX1_leave_X1_lineOf
set_option maxRecDepth 20000 in
theorem ggX1_leave_X1_placeOf : GoodIn wsX1_leave wsX1_placeOf := goodIn_r _ [29, 1, 14, 15, 16, 6, 17, 18, 19, 20, 21, 22, 23, 24, 25, 30, 31, 32, 33, 34, 35, 36, 52, 53, 54, 55, 56, 57, 58, 59, 60, 61, 62, 63, 64, 65, 66, 67, 68, 69, 70, 71, 72, 73, 74, 75, 76] (by decide +kernel) (by decide +kernel)
set_option maxRecDepth 20000 in
theorem gX1_leave_X1_placeOf : GoodIn wsX1_leave (wsV RX1 128 RX1 yX1_placeOf wsX1_placeOf) := goodIn_app (goodIn_of _ (by decide +kernel)) ggX1_leave_X1_placeOf
set_option maxRecDepth 20000 in
theorem ggX1_leave_X3_remove : GoodIn wsX1_leave wsX3_remove := goodIn_r _ [40, 35, 36, 41, 42, 43, 33, 44, 72, 73, 74, 75, 76] (by decide +kernel) (by decide +kernel)
set_option maxRecDepth 20000 in
theorem gX1_leave_X3_remove : GoodIn wsX1_leave (wsV RX1 166 RX3 yX3_remove wsX3_remove) := goodIn_app (goodIn_of _ (by decide +kernel)) ggX1_leave_X3_remove
set_option maxRecDepth 20000 in
theorem ggX1_leave_X4_end : GoodIn wsX1_leave wsX4_end := goodIn_r _ [49, 50, 51, 52, 53, 54, 55, 56, 57, 58, 59, 60] (by decide +kernel) (by decide +kernel)
set_option maxRecDepth 20000 in
theorem gX1_leave_X4_end : GoodIn wsX1_leave (wsV RX1 169 RX4 yX4_end wsX4_end) := goodIn_app (goodIn_of _ (by decide +kernel)) ggX1_leave_X4_end
theorem dX1_leave_0 : decode cX1_leave 0 = .ok (.aload_n 0, 1) := by decide +kernel
theorem dX1_leave_1 : decode cX1_leave 1 = .ok (.iload_n 1, 1) := by decide +kernel
theorem dX1_leave_2 : decode cX1_leave 2 = .ok (.invokevirtual 163, 3) := by decide +kernel
theorem dX1_leave_5 : decode cX1_leave 5 = .ok (.ifCond .ne 5, 3) := by decide +kernel
theorem dX1_leave_8 : decode cX1_leave 8 = .ok (.iconst (-1), 1) := by decide +kernel
theorem dX1_leave_9 : decode cX1_leave 9 = .ok (.ireturn, 1) := by decide +kernel
theorem dX1_leave_10 : decode cX1_leave 10 = .ok (.aload_n 0, 1) := by decide +kernel
theorem dX1_leave_11 : decode cX1_leave 11 = .ok (.aload_n 0, 1) := by decide +kernel
theorem dX1_leave_12 : decode cX1_leave 12 = .ok (.iload_n 1, 1) := by decide +kernel
theorem dX1_leave_13 : decode cX1_leave 13 = .ok (.invokevirtual 73, 3) := by decide +kernel
theorem dX1_leave_16 : decode cX1_leave 16 = .ok (.getfield 87, 3) := by decide +kernel
theorem dX1_leave_19 : decode cX1_leave 19 = .ok (.invokevirtual 65, 3) := by decide +kernel
theorem dX1_leave_22 : decode cX1_leave 22 = .ok (.aload_n 0, 1) := by decide +kernel
theorem dX1_leave_23 : decode cX1_leave 23 = .ok (.iload_n 1, 1) := by decide +kernel
theorem dX1_leave_24 : decode cX1_leave 24 = .ok (.invokevirtual 128, 3) := by decide +kernel
theorem dX1_leave_27 : decode cX1_leave 27 = .ok (.invokevirtual 166, 3) := by decide +kernel
theorem dX1_leave_30 : decode cX1_leave 30 = .ok (.aload_n 0, 1) := by decide +kernel
theorem dX1_leave_31 : decode cX1_leave 31 = .ok (.iload_n 1, 1) := by decide +kernel
theorem dX1_leave_32 : decode cX1_leave 32 = .ok (.invokevirtual 73, 3) := by decide +kernel
theorem dX1_leave_35 : decode cX1_leave 35 = .ok (.iconst 2, 1) := by decide +kernel
theorem dX1_leave_36 : decode cX1_leave 36 = .ok (.invokevirtual 169, 3) := by decide +kernel
theorem dX1_leave_39 : decode cX1_leave 39 = .ok (.aload_n 0, 1) := by decide +kernel
theorem dX1_leave_40 : decode cX1_leave 40 = .ok (.iload_n 1, 1) := by decide +kernel
theorem dX1_leave_41 : decode cX1_leave 41 = .ok (.invokevirtual 73, 3) := by decide +kernel
theorem dX1_leave_44 : decode cX1_leave 44 = .ok (.getfield 122, 3) := by decide +kernel
theorem dX1_leave_47 : decode cX1_leave 47 = .ok (.ireturn, 1) := by decide +kernel
set_option maxRecDepth 20000 in
theorem ggX1_mayTrade_X1_stands : GoodIn wsX1_mayTrade wsX1_stands := goodIn_r _ [8, 9, 10, 11, 12, 7, 13, 14, 15, 16, 17, 18, 19, 20, 43, 44, 45, 46, 47, 48, 49, 50, 51, 52, 53, 54, 55, 56, 57, 58, 59, 60, 61, 62] (by decide +kernel) (by decide +kernel)
set_option maxRecDepth 20000 in
theorem gX1_mayTrade_X1_stands : GoodIn wsX1_mayTrade (wsV RX1 163 RX1 yX1_stands wsX1_stands) := goodIn_app (goodIn_of _ (by decide +kernel)) ggX1_mayTrade_X1_stands
set_option maxRecDepth 20000 in
theorem ggX1_mayTrade_X1_personOf : GoodIn wsX1_mayTrade wsX1_personOf := goodIn_r _ [18, 19, 20, 52, 53, 54, 55, 56, 57, 58, 59, 60, 61, 62] (by decide +kernel) (by decide +kernel)
set_option maxRecDepth 20000 in
theorem gX1_mayTrade_X1_personOf : GoodIn wsX1_mayTrade (wsV RX1 73 RX1 yX1_personOf wsX1_personOf) := goodIn_app (goodIn_of _ (by decide +kernel)) ggX1_mayTrade_X1_personOf
set_option maxRecDepth 20000 in
theorem ggX1_mayTrade_X1_placeOf : GoodIn wsX1_mayTrade wsX1_placeOf := goodIn_r _ [24, 1, 15, 16, 17, 7, 18, 19, 20, 25, 26, 27, 28, 29, 30, 31, 32, 33, 34, 35, 36, 37, 43, 44, 45, 46, 47, 48, 49, 50, 51, 52, 53, 54, 55, 56, 57, 58, 59, 60, 61, 62, 63, 64, 65, 66, 67] (by decide +kernel) (by decide +kernel)
set_option maxRecDepth 20000 in
theorem gX1_mayTrade_X1_placeOf : GoodIn wsX1_mayTrade (wsV RX1 128 RX1 yX1_placeOf wsX1_placeOf) := goodIn_app (goodIn_of _ (by decide +kernel)) ggX1_mayTrade_X1_placeOf
set_option maxRecDepth 20000 in
theorem ggX1_mayTrade_X1_priceOf : GoodIn wsX1_mayTrade wsX1_priceOf := goodIn_r _ [41, 42, 52, 53, 54, 55, 56, 57, 58, 59, 60, 61, 62] (by decide +kernel) (by decide +kernel)
set_option maxRecDepth 20000 in
theorem gX1_mayTrade_X1_priceOf : GoodIn wsX1_mayTrade (wsV RX1 172 RX1 yX1_priceOf wsX1_priceOf) := goodIn_app (goodIn_of _ (by decide +kernel)) ggX1_mayTrade_X1_priceOf
theorem dX1_mayTrade_0 : decode cX1_mayTrade 0 = .ok (.aload_n 0, 1) := by decide +kernel
theorem dX1_mayTrade_1 : decode cX1_mayTrade 1 = .ok (.iload_n 1, 1) := by decide +kernel
theorem dX1_mayTrade_2 : decode cX1_mayTrade 2 = .ok (.invokevirtual 163, 3) := by decide +kernel
theorem dX1_mayTrade_5 : decode cX1_mayTrade 5 = .ok (.ifCond .eq 11, 3) := by decide +kernel
theorem dX1_mayTrade_8 : decode cX1_mayTrade 8 = .ok (.aload_n 0, 1) := by decide +kernel
theorem dX1_mayTrade_9 : decode cX1_mayTrade 9 = .ok (.iload_n 2, 1) := by decide +kernel
theorem dX1_mayTrade_10 : decode cX1_mayTrade 10 = .ok (.invokevirtual 163, 3) := by decide +kernel
theorem dX1_mayTrade_13 : decode cX1_mayTrade 13 = .ok (.ifCond .ne 5, 3) := by decide +kernel
theorem dX1_mayTrade_16 : decode cX1_mayTrade 16 = .ok (.iconst 0, 1) := by decide +kernel
theorem dX1_mayTrade_17 : decode cX1_mayTrade 17 = .ok (.ireturn, 1) := by decide +kernel
theorem dX1_mayTrade_18 : decode cX1_mayTrade 18 = .ok (.aload_n 0, 1) := by decide +kernel
theorem dX1_mayTrade_19 : decode cX1_mayTrade 19 = .ok (.iload_n 1, 1) := by decide +kernel
theorem dX1_mayTrade_20 : decode cX1_mayTrade 20 = .ok (.invokevirtual 73, 3) := by decide +kernel
theorem dX1_mayTrade_23 : decode cX1_mayTrade 23 = .ok (.astore_n 3, 1) := by decide +kernel
theorem dX1_mayTrade_24 : decode cX1_mayTrade 24 = .ok (.aload_n 0, 1) := by decide +kernel
theorem dX1_mayTrade_25 : decode cX1_mayTrade 25 = .ok (.iload_n 1, 1) := by decide +kernel
theorem dX1_mayTrade_26 : decode cX1_mayTrade 26 = .ok (.invokevirtual 128, 3) := by decide +kernel
theorem dX1_mayTrade_29 : decode cX1_mayTrade 29 = .ok (.aload_n 0, 1) := by decide +kernel
theorem dX1_mayTrade_30 : decode cX1_mayTrade 30 = .ok (.iload_n 2, 1) := by decide +kernel
theorem dX1_mayTrade_31 : decode cX1_mayTrade 31 = .ok (.invokevirtual 128, 3) := by decide +kernel
theorem dX1_mayTrade_34 : decode cX1_mayTrade 34 = .ok (.isub, 1) := by decide +kernel
theorem dX1_mayTrade_35 : decode cX1_mayTrade 35 = .ok (.istore 4, 2) := by decide +kernel
theorem dX1_mayTrade_37 : decode cX1_mayTrade 37 = .ok (.aload_n 3, 1) := by decide +kernel
theorem dX1_mayTrade_38 : decode cX1_mayTrade 38 = .ok (.getfield 87, 3) := by decide +kernel
theorem dX1_mayTrade_41 : decode cX1_mayTrade 41 = .ok (.aload_n 0, 1) := by decide +kernel
theorem dX1_mayTrade_42 : decode cX1_mayTrade 42 = .ok (.iload_n 2, 1) := by decide +kernel
theorem dX1_mayTrade_43 : decode cX1_mayTrade 43 = .ok (.invokevirtual 73, 3) := by decide +kernel
theorem dX1_mayTrade_46 : decode cX1_mayTrade 46 = .ok (.getfield 87, 3) := by decide +kernel
theorem dX1_mayTrade_49 : decode cX1_mayTrade 49 = .ok (.if_icmp .ne 31, 3) := by decide +kernel
theorem dX1_mayTrade_52 : decode cX1_mayTrade 52 = .ok (.iload 4, 2) := by decide +kernel
theorem dX1_mayTrade_54 : decode cX1_mayTrade 54 = .ok (.ifCond .le 26, 3) := by decide +kernel
theorem dX1_mayTrade_57 : decode cX1_mayTrade 57 = .ok (.aload_n 3, 1) := by decide +kernel
theorem dX1_mayTrade_58 : decode cX1_mayTrade 58 = .ok (.getfield 100, 3) := by decide +kernel
theorem dX1_mayTrade_61 : decode cX1_mayTrade 61 = .ok (.aload_n 3, 1) := by decide +kernel
theorem dX1_mayTrade_62 : decode cX1_mayTrade 62 = .ok (.getfield 122, 3) := by decide +kernel
theorem dX1_mayTrade_65 : decode cX1_mayTrade 65 = .ok (.iadd, 1) := by decide +kernel
theorem dX1_mayTrade_66 : decode cX1_mayTrade 66 = .ok (.aload_n 0, 1) := by decide +kernel
theorem dX1_mayTrade_67 : decode cX1_mayTrade 67 = .ok (.iload 4, 2) := by decide +kernel
theorem dX1_mayTrade_69 : decode cX1_mayTrade 69 = .ok (.invokevirtual 172, 3) := by decide +kernel
theorem dX1_mayTrade_72 : decode cX1_mayTrade 72 = .ok (.isub, 1) := by decide +kernel
theorem dX1_mayTrade_73 : decode cX1_mayTrade 73 = .ok (.ifCond .lt 7, 3) := by decide +kernel
theorem dX1_mayTrade_76 : decode cX1_mayTrade 76 = .ok (.iconst 1, 1) := by decide +kernel
theorem dX1_mayTrade_77 : decode cX1_mayTrade 77 = .ok (.goto 4, 3) := by decide +kernel
theorem dX1_mayTrade_80 : decode cX1_mayTrade 80 = .ok (.iconst 0, 1) := by decide +kernel
theorem dX1_mayTrade_81 : decode cX1_mayTrade 81 = .ok (.ireturn, 1) := by decide +kernel
theorem dX1_priceOf_0 : decode cX1_priceOf 0 = .ok (.aload_n 0, 1) := by decide +kernel
theorem dX1_priceOf_1 : decode cX1_priceOf 1 = .ok (.getfield 9, 3) := by decide +kernel
theorem dX1_priceOf_4 : decode cX1_priceOf 4 = .ok (.iconst 2, 1) := by decide +kernel
theorem dX1_priceOf_5 : decode cX1_priceOf 5 = .ok (.iaload, 1) := by decide +kernel
theorem dX1_priceOf_6 : decode cX1_priceOf 6 = .ok (.iload_n 1, 1) := by decide +kernel
theorem dX1_priceOf_7 : decode cX1_priceOf 7 = .ok (.imul, 1) := by decide +kernel
theorem dX1_priceOf_8 : decode cX1_priceOf 8 = .ok (.ireturn, 1) := by decide +kernel
set_option maxRecDepth 20000 in
theorem ggX1_trade_X1_mayTrade : GoodIn wsX1_trade wsX1_mayTrade := goodIn_r _ [9, 1, 2, 10, 11, 12, 13, 8, 14, 15, 16, 17, 18, 19, 20, 21, 22, 23, 24, 25, 26, 27, 28, 29, 30, 31, 32, 33, 34, 35, 36, 37, 38, 39, 40, 41, 42, 43, 44, 45, 46, 47, 48, 57, 58, 59, 60, 61, 62, 63, 64, 65, 66, 67, 68, 69, 70, 71, 72, 73, 74, 75, 76, 77, 78, 79, 80, 81] (by decide +kernel) (by decide +kernel)
set_option maxRecDepth 20000 in
theorem gX1_trade_X1_mayTrade : GoodIn wsX1_trade (wsV RX1 175 RX1 yX1_mayTrade wsX1_mayTrade) := goodIn_app (goodIn_of _ (by decide +kernel)) ggX1_trade_X1_mayTrade
set_option maxRecDepth 20000 in
theorem ggX1_trade_X1_placeOf : GoodIn wsX1_trade wsX1_placeOf := goodIn_r _ [30, 1, 21, 22, 23, 8, 24, 25, 26, 31, 32, 33, 34, 35, 36, 37, 38, 39, 40, 41, 42, 43, 57, 58, 59, 60, 61, 62, 63, 64, 65, 66, 67, 68, 69, 70, 71, 72, 73, 74, 75, 76, 77, 78, 79, 80, 81] (by decide +kernel) (by decide +kernel)
set_option maxRecDepth 20000 in
theorem gX1_trade_X1_placeOf : GoodIn wsX1_trade (wsV RX1 128 RX1 yX1_placeOf wsX1_placeOf) := goodIn_app (goodIn_of _ (by decide +kernel)) ggX1_trade_X1_placeOf
set_option maxRecDepth 20000 in
theorem ggX1_trade_X1_priceOf : GoodIn wsX1_trade wsX1_priceOf := goodIn_r _ [47, 48, 66, 67, 68, 69, 70, 71, 72, 73, 74, 75, 76] (by decide +kernel) (by decide +kernel)
set_option maxRecDepth 20000 in
theorem gX1_trade_X1_priceOf : GoodIn wsX1_trade (wsV RX1 172 RX1 yX1_priceOf wsX1_priceOf) := goodIn_app (goodIn_of _ (by decide +kernel)) ggX1_trade_X1_priceOf
set_option maxRecDepth 20000 in
theorem ggX1_trade_X1_personOf : GoodIn wsX1_trade wsX1_personOf := goodIn_r _ [24, 25, 26, 66, 67, 68, 69, 70, 71, 72, 73, 74, 75, 76] (by decide +kernel) (by decide +kernel)
set_option maxRecDepth 20000 in
theorem gX1_trade_X1_personOf : GoodIn wsX1_trade (wsV RX1 73 RX1 yX1_personOf wsX1_personOf) := goodIn_app (goodIn_of _ (by decide +kernel)) ggX1_trade_X1_personOf
set_option maxRecDepth 20000 in
theorem ggX1_trade_X1_lineOf : GoodIn wsX1_trade wsX1_lineOf := goodIn_r _ [34, 35, 36, 66, 67, 68, 69, 70, 71, 72, 73, 74, 75, 76] (by decide +kernel) (by decide +kernel)
set_option maxRecDepth 20000 in
theorem gX1_trade_X1_lineOf : GoodIn wsX1_trade (wsV RX1 65 RX1 yX1_lineOf wsX1_lineOf) := goodIn_app (goodIn_of _ (by decide +kernel)) ggX1_trade_X1_lineOf
set_option maxRecDepth 20000 in
theorem ggX1_trade_X3_swap : GoodIn wsX1_trade wsX3_swap := goodIn_r _ [52, 43, 53, 54, 55, 40, 56, 42, 77, 78, 79, 80, 81] (by decide +kernel) (by decide +kernel)
set_option maxRecDepth 20000 in
theorem gX1_trade_X3_swap : GoodIn wsX1_trade (wsV RX1 178 RX3 yX3_swap wsX3_swap) := goodIn_app (goodIn_of _ (by decide +kernel)) ggX1_trade_X3_swap
theorem dX1_trade_0 : decode cX1_trade 0 = .ok (.aload_n 0, 1) := by decide +kernel
theorem dX1_trade_1 : decode cX1_trade 1 = .ok (.iload_n 1, 1) := by decide +kernel
theorem dX1_trade_2 : decode cX1_trade 2 = .ok (.iload_n 2, 1) := by decide +kernel
theorem dX1_trade_3 : decode cX1_trade 3 = .ok (.invokevirtual 175, 3) := by decide +kernel
theorem dX1_trade_6 : decode cX1_trade 6 = .ok (.ifCond .ne 5, 3) := by decide +kernel
theorem dX1_trade_9 : decode cX1_trade 9 = .ok (.iconst (-1), 1) := by decide +kernel
theorem dX1_trade_10 : decode cX1_trade 10 = .ok (.ireturn, 1) := by decide +kernel
theorem dX1_trade_11 : decode cX1_trade 11 = .ok (.aload_n 0, 1) := by decide +kernel
theorem dX1_trade_12 : decode cX1_trade 12 = .ok (.iload_n 1, 1) := by decide +kernel
theorem dX1_trade_13 : decode cX1_trade 13 = .ok (.invokevirtual 128, 3) := by decide +kernel
theorem dX1_trade_16 : decode cX1_trade 16 = .ok (.aload_n 0, 1) := by decide +kernel
theorem dX1_trade_17 : decode cX1_trade 17 = .ok (.iload_n 2, 1) := by decide +kernel
theorem dX1_trade_18 : decode cX1_trade 18 = .ok (.invokevirtual 128, 3) := by decide +kernel
theorem dX1_trade_21 : decode cX1_trade 21 = .ok (.isub, 1) := by decide +kernel
theorem dX1_trade_22 : decode cX1_trade 22 = .ok (.istore_n 3, 1) := by decide +kernel
theorem dX1_trade_23 : decode cX1_trade 23 = .ok (.aload_n 0, 1) := by decide +kernel
theorem dX1_trade_24 : decode cX1_trade 24 = .ok (.iload_n 3, 1) := by decide +kernel
theorem dX1_trade_25 : decode cX1_trade 25 = .ok (.invokevirtual 172, 3) := by decide +kernel
theorem dX1_trade_28 : decode cX1_trade 28 = .ok (.istore 4, 2) := by decide +kernel
theorem dX1_trade_30 : decode cX1_trade 30 = .ok (.aload_n 0, 1) := by decide +kernel
theorem dX1_trade_31 : decode cX1_trade 31 = .ok (.aload_n 0, 1) := by decide +kernel
theorem dX1_trade_32 : decode cX1_trade 32 = .ok (.iload_n 1, 1) := by decide +kernel
theorem dX1_trade_33 : decode cX1_trade 33 = .ok (.invokevirtual 73, 3) := by decide +kernel
theorem dX1_trade_36 : decode cX1_trade 36 = .ok (.getfield 87, 3) := by decide +kernel
theorem dX1_trade_39 : decode cX1_trade 39 = .ok (.invokevirtual 65, 3) := by decide +kernel
theorem dX1_trade_42 : decode cX1_trade 42 = .ok (.aload_n 0, 1) := by decide +kernel
theorem dX1_trade_43 : decode cX1_trade 43 = .ok (.iload_n 1, 1) := by decide +kernel
theorem dX1_trade_44 : decode cX1_trade 44 = .ok (.invokevirtual 128, 3) := by decide +kernel
theorem dX1_trade_47 : decode cX1_trade 47 = .ok (.aload_n 0, 1) := by decide +kernel
theorem dX1_trade_48 : decode cX1_trade 48 = .ok (.iload_n 2, 1) := by decide +kernel
theorem dX1_trade_49 : decode cX1_trade 49 = .ok (.invokevirtual 128, 3) := by decide +kernel
theorem dX1_trade_52 : decode cX1_trade 52 = .ok (.invokevirtual 178, 3) := by decide +kernel
theorem dX1_trade_55 : decode cX1_trade 55 = .ok (.aload_n 0, 1) := by decide +kernel
theorem dX1_trade_56 : decode cX1_trade 56 = .ok (.iload_n 1, 1) := by decide +kernel
theorem dX1_trade_57 : decode cX1_trade 57 = .ok (.invokevirtual 73, 3) := by decide +kernel
theorem dX1_trade_60 : decode cX1_trade 60 = .ok (.dup, 1) := by decide +kernel
theorem dX1_trade_61 : decode cX1_trade 61 = .ok (.getfield 100, 3) := by decide +kernel
theorem dX1_trade_64 : decode cX1_trade 64 = .ok (.iload 4, 2) := by decide +kernel
theorem dX1_trade_66 : decode cX1_trade 66 = .ok (.isub, 1) := by decide +kernel
theorem dX1_trade_67 : decode cX1_trade 67 = .ok (.putfield 100, 3) := by decide +kernel
theorem dX1_trade_70 : decode cX1_trade 70 = .ok (.aload_n 0, 1) := by decide +kernel
theorem dX1_trade_71 : decode cX1_trade 71 = .ok (.iload_n 2, 1) := by decide +kernel
theorem dX1_trade_72 : decode cX1_trade 72 = .ok (.invokevirtual 73, 3) := by decide +kernel
theorem dX1_trade_75 : decode cX1_trade 75 = .ok (.dup, 1) := by decide +kernel
theorem dX1_trade_76 : decode cX1_trade 76 = .ok (.getfield 100, 3) := by decide +kernel
theorem dX1_trade_79 : decode cX1_trade 79 = .ok (.iload 4, 2) := by decide +kernel
theorem dX1_trade_81 : decode cX1_trade 81 = .ok (.iadd, 1) := by decide +kernel
theorem dX1_trade_82 : decode cX1_trade 82 = .ok (.putfield 100, 3) := by decide +kernel
theorem dX1_trade_85 : decode cX1_trade 85 = .ok (.aload_n 0, 1) := by decide +kernel
theorem dX1_trade_86 : decode cX1_trade 86 = .ok (.iload_n 1, 1) := by decide +kernel
theorem dX1_trade_87 : decode cX1_trade 87 = .ok (.invokevirtual 73, 3) := by decide +kernel
theorem dX1_trade_90 : decode cX1_trade 90 = .ok (.dup, 1) := by decide +kernel
theorem dX1_trade_91 : decode cX1_trade 91 = .ok (.getfield 135, 3) := by decide +kernel
theorem dX1_trade_94 : decode cX1_trade 94 = .ok (.iload_n 3, 1) := by decide +kernel
theorem dX1_trade_95 : decode cX1_trade 95 = .ok (.isub, 1) := by decide +kernel
theorem dX1_trade_96 : decode cX1_trade 96 = .ok (.putfield 135, 3) := by decide +kernel
theorem dX1_trade_99 : decode cX1_trade 99 = .ok (.aload_n 0, 1) := by decide +kernel
theorem dX1_trade_100 : decode cX1_trade 100 = .ok (.iload_n 2, 1) := by decide +kernel
theorem dX1_trade_101 : decode cX1_trade 101 = .ok (.invokevirtual 73, 3) := by decide +kernel
theorem dX1_trade_104 : decode cX1_trade 104 = .ok (.dup, 1) := by decide +kernel
theorem dX1_trade_105 : decode cX1_trade 105 = .ok (.getfield 135, 3) := by decide +kernel
theorem dX1_trade_108 : decode cX1_trade 108 = .ok (.iload_n 3, 1) := by decide +kernel
theorem dX1_trade_109 : decode cX1_trade 109 = .ok (.iadd, 1) := by decide +kernel
theorem dX1_trade_110 : decode cX1_trade 110 = .ok (.putfield 135, 3) := by decide +kernel
theorem dX1_trade_113 : decode cX1_trade 113 = .ok (.aload_n 0, 1) := by decide +kernel
theorem dX1_trade_114 : decode cX1_trade 114 = .ok (.dup, 1) := by decide +kernel
theorem dX1_trade_115 : decode cX1_trade 115 = .ok (.getfield 47, 3) := by decide +kernel
theorem dX1_trade_118 : decode cX1_trade 118 = .ok (.iconst 1, 1) := by decide +kernel
theorem dX1_trade_119 : decode cX1_trade 119 = .ok (.iadd, 1) := by decide +kernel
theorem dX1_trade_120 : decode cX1_trade 120 = .ok (.putfield 47, 3) := by decide +kernel
theorem dX1_trade_123 : decode cX1_trade 123 = .ok (.iload 4, 2) := by decide +kernel
theorem dX1_trade_125 : decode cX1_trade 125 = .ok (.ireturn, 1) := by decide +kernel
set_option maxRecDepth 20000 in
theorem ggX1_mayPass_X1_stands : GoodIn wsX1_mayPass wsX1_stands := goodIn_r _ [8, 9, 10, 11, 12, 7, 13, 14, 15, 16, 17, 18, 19, 20, 39, 40, 41, 42, 43, 44, 45, 46, 47, 48, 49, 50, 51, 52, 53, 54, 55, 56, 57, 58] (by decide +kernel) (by decide +kernel)
set_option maxRecDepth 20000 in
theorem gX1_mayPass_X1_stands : GoodIn wsX1_mayPass (wsV RX1 163 RX1 yX1_stands wsX1_stands) := goodIn_app (goodIn_of _ (by decide +kernel)) ggX1_mayPass_X1_stands
set_option maxRecDepth 20000 in
theorem ggX1_mayPass_X1_personOf : GoodIn wsX1_mayPass wsX1_personOf := goodIn_r _ [18, 19, 20, 48, 49, 50, 51, 52, 53, 54, 55, 56, 57, 58] (by decide +kernel) (by decide +kernel)
set_option maxRecDepth 20000 in
theorem gX1_mayPass_X1_personOf : GoodIn wsX1_mayPass (wsV RX1 73 RX1 yX1_personOf wsX1_personOf) := goodIn_app (goodIn_of _ (by decide +kernel)) ggX1_mayPass_X1_personOf
set_option maxRecDepth 20000 in
theorem ggX1_mayPass_X1_placeOf : GoodIn wsX1_mayPass wsX1_placeOf := goodIn_r _ [24, 25, 15, 16, 17, 7, 18, 19, 20, 26, 27, 28, 29, 30, 31, 32, 33, 34, 35, 36, 37, 38, 39, 40, 41, 42, 43, 44, 45, 46, 47, 48, 49, 50, 51, 52, 53, 54, 55, 56, 57, 58, 59, 60, 61, 62, 63] (by decide +kernel) (by decide +kernel)
set_option maxRecDepth 20000 in
theorem gX1_mayPass_X1_placeOf : GoodIn wsX1_mayPass (wsV RX1 128 RX1 yX1_placeOf wsX1_placeOf) := goodIn_app (goodIn_of _ (by decide +kernel)) ggX1_mayPass_X1_placeOf
theorem dX1_mayPass_0 : decode cX1_mayPass 0 = .ok (.aload_n 0, 1) := by decide +kernel
theorem dX1_mayPass_1 : decode cX1_mayPass 1 = .ok (.iload_n 1, 1) := by decide +kernel
theorem dX1_mayPass_2 : decode cX1_mayPass 2 = .ok (.invokevirtual 163, 3) := by decide +kernel
theorem dX1_mayPass_5 : decode cX1_mayPass 5 = .ok (.ifCond .eq 43, 3) := by decide +kernel
theorem dX1_mayPass_8 : decode cX1_mayPass 8 = .ok (.aload_n 0, 1) := by decide +kernel
theorem dX1_mayPass_9 : decode cX1_mayPass 9 = .ok (.iload_n 1, 1) := by decide +kernel
theorem dX1_mayPass_10 : decode cX1_mayPass 10 = .ok (.invokevirtual 73, 3) := by decide +kernel
theorem dX1_mayPass_13 : decode cX1_mayPass 13 = .ok (.getfield 125, 3) := by decide +kernel
theorem dX1_mayPass_16 : decode cX1_mayPass 16 = .ok (.ifCond .eq 32, 3) := by decide +kernel
theorem dX1_mayPass_19 : decode cX1_mayPass 19 = .ok (.aload_n 0, 1) := by decide +kernel
theorem dX1_mayPass_20 : decode cX1_mayPass 20 = .ok (.iload_n 1, 1) := by decide +kernel
theorem dX1_mayPass_21 : decode cX1_mayPass 21 = .ok (.invokevirtual 128, 3) := by decide +kernel
theorem dX1_mayPass_24 : decode cX1_mayPass 24 = .ok (.ifCond .le 24, 3) := by decide +kernel
theorem dX1_mayPass_27 : decode cX1_mayPass 27 = .ok (.aload_n 0, 1) := by decide +kernel
theorem dX1_mayPass_28 : decode cX1_mayPass 28 = .ok (.getfield 44, 3) := by decide +kernel
theorem dX1_mayPass_31 : decode cX1_mayPass 31 = .ok (.aload_n 0, 1) := by decide +kernel
theorem dX1_mayPass_32 : decode cX1_mayPass 32 = .ok (.iload_n 1, 1) := by decide +kernel
theorem dX1_mayPass_33 : decode cX1_mayPass 33 = .ok (.invokevirtual 73, 3) := by decide +kernel
theorem dX1_mayPass_36 : decode cX1_mayPass 36 = .ok (.getfield 182, 3) := by decide +kernel
theorem dX1_mayPass_39 : decode cX1_mayPass 39 = .ok (.isub, 1) := by decide +kernel
theorem dX1_mayPass_40 : decode cX1_mayPass 40 = .ok (.iconst 5, 1) := by decide +kernel
theorem dX1_mayPass_41 : decode cX1_mayPass 41 = .ok (.if_icmp .lt 7, 3) := by decide +kernel
theorem dX1_mayPass_44 : decode cX1_mayPass 44 = .ok (.iconst 1, 1) := by decide +kernel
theorem dX1_mayPass_45 : decode cX1_mayPass 45 = .ok (.goto 4, 3) := by decide +kernel
theorem dX1_mayPass_48 : decode cX1_mayPass 48 = .ok (.iconst 0, 1) := by decide +kernel
theorem dX1_mayPass_49 : decode cX1_mayPass 49 = .ok (.ireturn, 1) := by decide +kernel
set_option maxRecDepth 20000 in
theorem ggX1_pass_X1_mayPass : GoodIn wsX1_pass wsX1_mayPass := goodIn_r _ [15, 16, 8, 9, 17, 18, 19, 14, 20, 21, 22, 23, 24, 25, 26, 27, 28, 29, 30, 31, 32, 33, 34, 35, 36, 1, 37, 38, 39, 40, 41, 42, 43, 44, 45, 46, 47, 48, 49, 73, 74, 75, 76, 77, 78, 79, 80, 81, 82, 83, 84, 85, 86, 87, 88, 89, 90, 91, 92, 93, 94, 95, 96, 97] (by decide +kernel) (by decide +kernel)
set_option maxRecDepth 20000 in
theorem gX1_pass_X1_mayPass : GoodIn wsX1_pass (wsV RX1 185 RX1 yX1_mayPass wsX1_mayPass) := goodIn_app (goodIn_of _ (by decide +kernel)) ggX1_pass_X1_mayPass
set_option maxRecDepth 20000 in
theorem ggX1_pass_X1_personOf : GoodIn wsX1_pass wsX1_personOf := goodIn_r _ [30, 31, 32, 82, 83, 84, 85, 86, 87, 88, 89, 90, 91, 92] (by decide +kernel) (by decide +kernel)
set_option maxRecDepth 20000 in
theorem gX1_pass_X1_personOf : GoodIn wsX1_pass (wsV RX1 73 RX1 yX1_personOf wsX1_personOf) := goodIn_app (goodIn_of _ (by decide +kernel)) ggX1_pass_X1_personOf
set_option maxRecDepth 20000 in
theorem ggX1_pass_X1_lineOf : GoodIn wsX1_pass wsX1_lineOf := goodIn_r _ [40, 41, 42, 82, 83, 84, 85, 86, 87, 88, 89, 90, 91, 92] (by decide +kernel) (by decide +kernel)
set_option maxRecDepth 20000 in
theorem gX1_pass_X1_lineOf : GoodIn wsX1_pass (wsV RX1 65 RX1 yX1_lineOf wsX1_lineOf) := goodIn_app (goodIn_of _ (by decide +kernel)) ggX1_pass_X1_lineOf
set_option maxRecDepth 20000 in
theorem ggX1_pass_X1_placeOf : GoodIn wsX1_pass wsX1_placeOf := goodIn_r _ [36, 1, 27, 28, 29, 14, 30, 31, 32, 37, 38, 39, 40, 41, 42, 43, 44, 45, 46, 47, 48, 49, 73, 74, 75, 76, 77, 78, 79, 80, 81, 82, 83, 84, 85, 86, 87, 88, 89, 90, 91, 92, 93, 94, 95, 96, 97] (by decide +kernel) (by decide +kernel)
set_option maxRecDepth 20000 in
theorem gX1_pass_X1_placeOf : GoodIn wsX1_pass (wsV RX1 128 RX1 yX1_placeOf wsX1_placeOf) := goodIn_app (goodIn_of _ (by decide +kernel)) ggX1_pass_X1_placeOf
set_option maxRecDepth 20000 in
theorem ggX1_pass_X3_who : GoodIn wsX1_pass wsX3_who := goodIn_r _ [53, 49, 54, 55, 56, 46, 57, 48, 93, 94, 95, 96, 97] (by decide +kernel) (by decide +kernel)
set_option maxRecDepth 20000 in
theorem gX1_pass_X3_who : GoodIn wsX1_pass (wsV RX1 119 RX3 yX3_who wsX3_who) := goodIn_app (goodIn_of _ (by decide +kernel)) ggX1_pass_X3_who
set_option maxRecDepth 20000 in
theorem ggX1_pass_X1_payForPassing : GoodIn wsX1_pass wsX1_payForPassing := goodIn_r _ [61, 7, 16, 2, 62, 63, 64, 65, 14, 66, 67, 68, 73, 74, 75, 76, 77, 78, 79, 80, 81, 82, 83, 84, 85, 86, 87, 88, 89, 90, 91, 92] (by decide +kernel) (by decide +kernel)
set_option maxRecDepth 20000 in
theorem gX1_pass_X1_payForPassing : GoodIn wsX1_pass (wsV RX1 194 RX1 yX1_payForPassing wsX1_payForPassing) := goodIn_app (goodIn_of _ (by decide +kernel)) ggX1_pass_X1_payForPassing
set_option maxRecDepth 20000 in
theorem ggX1_pass_X3_swap : GoodIn wsX1_pass wsX3_swap := goodIn_r _ [72, 49, 54, 55, 56, 46, 57, 48, 93, 94, 95, 96, 97] (by decide +kernel) (by decide +kernel)
set_option maxRecDepth 20000 in
theorem gX1_pass_X3_swap : GoodIn wsX1_pass (wsV RX1 178 RX3 yX3_swap wsX3_swap) := goodIn_app (goodIn_of _ (by decide +kernel)) ggX1_pass_X3_swap
theorem dX1_pass_0 : decode cX1_pass 0 = .ok (.aload_n 0, 1) := by decide +kernel
theorem dX1_pass_1 : decode cX1_pass 1 = .ok (.iload_n 1, 1) := by decide +kernel
theorem dX1_pass_2 : decode cX1_pass 2 = .ok (.invokevirtual 185, 3) := by decide +kernel
theorem dX1_pass_5 : decode cX1_pass 5 = .ok (.ifCond .ne 5, 3) := by decide +kernel
theorem dX1_pass_8 : decode cX1_pass 8 = .ok (.iconst (-1), 1) := by decide +kernel
theorem dX1_pass_9 : decode cX1_pass 9 = .ok (.ireturn, 1) := by decide +kernel
theorem dX1_pass_10 : decode cX1_pass 10 = .ok (.aload_n 0, 1) := by decide +kernel
theorem dX1_pass_11 : decode cX1_pass 11 = .ok (.iload_n 1, 1) := by decide +kernel
theorem dX1_pass_12 : decode cX1_pass 12 = .ok (.invokevirtual 73, 3) := by decide +kernel
theorem dX1_pass_15 : decode cX1_pass 15 = .ok (.astore_n 2, 1) := by decide +kernel
theorem dX1_pass_16 : decode cX1_pass 16 = .ok (.aload_n 0, 1) := by decide +kernel
theorem dX1_pass_17 : decode cX1_pass 17 = .ok (.aload_n 2, 1) := by decide +kernel
theorem dX1_pass_18 : decode cX1_pass 18 = .ok (.getfield 87, 3) := by decide +kernel
theorem dX1_pass_21 : decode cX1_pass 21 = .ok (.invokevirtual 65, 3) := by decide +kernel
theorem dX1_pass_24 : decode cX1_pass 24 = .ok (.astore_n 3, 1) := by decide +kernel
theorem dX1_pass_25 : decode cX1_pass 25 = .ok (.aload_n 0, 1) := by decide +kernel
theorem dX1_pass_26 : decode cX1_pass 26 = .ok (.iload_n 1, 1) := by decide +kernel
theorem dX1_pass_27 : decode cX1_pass 27 = .ok (.invokevirtual 128, 3) := by decide +kernel
theorem dX1_pass_30 : decode cX1_pass 30 = .ok (.istore 4, 2) := by decide +kernel
theorem dX1_pass_32 : decode cX1_pass 32 = .ok (.aload_n 0, 1) := by decide +kernel
theorem dX1_pass_33 : decode cX1_pass 33 = .ok (.getfield 9, 3) := by decide +kernel
theorem dX1_pass_36 : decode cX1_pass 36 = .ok (.iconst 3, 1) := by decide +kernel
theorem dX1_pass_37 : decode cX1_pass 37 = .ok (.iaload, 1) := by decide +kernel
theorem dX1_pass_38 : decode cX1_pass 38 = .ok (.iload 4, 2) := by decide +kernel
theorem dX1_pass_40 : decode cX1_pass 40 = .ok (.invokestatic 188, 3) := by decide +kernel
theorem dX1_pass_43 : decode cX1_pass 43 = .ok (.istore 5, 2) := by decide +kernel
theorem dX1_pass_45 : decode cX1_pass 45 = .ok (.iload 4, 2) := by decide +kernel
theorem dX1_pass_47 : decode cX1_pass 47 = .ok (.istore 6, 2) := by decide +kernel
theorem dX1_pass_49 : decode cX1_pass 49 = .ok (.iload 6, 2) := by decide +kernel
theorem dX1_pass_51 : decode cX1_pass 51 = .ok (.iload 4, 2) := by decide +kernel
theorem dX1_pass_53 : decode cX1_pass 53 = .ok (.iload 5, 2) := by decide +kernel
theorem dX1_pass_55 : decode cX1_pass 55 = .ok (.isub, 1) := by decide +kernel
theorem dX1_pass_56 : decode cX1_pass 56 = .ok (.if_icmp .le 36, 3) := by decide +kernel
theorem dX1_pass_59 : decode cX1_pass 59 = .ok (.aload_n 0, 1) := by decide +kernel
theorem dX1_pass_60 : decode cX1_pass 60 = .ok (.aload_n 2, 1) := by decide +kernel
theorem dX1_pass_61 : decode cX1_pass 61 = .ok (.aload_n 0, 1) := by decide +kernel
theorem dX1_pass_62 : decode cX1_pass 62 = .ok (.aload_n 3, 1) := by decide +kernel
theorem dX1_pass_63 : decode cX1_pass 63 = .ok (.iload 6, 2) := by decide +kernel
theorem dX1_pass_65 : decode cX1_pass 65 = .ok (.iconst 1, 1) := by decide +kernel
theorem dX1_pass_66 : decode cX1_pass 66 = .ok (.isub, 1) := by decide +kernel
theorem dX1_pass_67 : decode cX1_pass 67 = .ok (.invokevirtual 119, 3) := by decide +kernel
theorem dX1_pass_70 : decode cX1_pass 70 = .ok (.invokevirtual 73, 3) := by decide +kernel
theorem dX1_pass_73 : decode cX1_pass 73 = .ok (.invokevirtual 194, 3) := by decide +kernel
theorem dX1_pass_76 : decode cX1_pass 76 = .ok (.aload_n 3, 1) := by decide +kernel
theorem dX1_pass_77 : decode cX1_pass 77 = .ok (.iload 6, 2) := by decide +kernel
theorem dX1_pass_79 : decode cX1_pass 79 = .ok (.iconst 1, 1) := by decide +kernel
theorem dX1_pass_80 : decode cX1_pass 80 = .ok (.isub, 1) := by decide +kernel
theorem dX1_pass_81 : decode cX1_pass 81 = .ok (.iload 6, 2) := by decide +kernel
theorem dX1_pass_83 : decode cX1_pass 83 = .ok (.invokevirtual 178, 3) := by decide +kernel
theorem dX1_pass_86 : decode cX1_pass 86 = .ok (.iinc 6 (-1), 3) := by decide +kernel
theorem dX1_pass_89 : decode cX1_pass 89 = .ok (.goto (-40), 3) := by decide +kernel
theorem dX1_pass_92 : decode cX1_pass 92 = .ok (.aload_n 2, 1) := by decide +kernel
theorem dX1_pass_93 : decode cX1_pass 93 = .ok (.dup, 1) := by decide +kernel
theorem dX1_pass_94 : decode cX1_pass 94 = .ok (.getfield 135, 3) := by decide +kernel
theorem dX1_pass_97 : decode cX1_pass 97 = .ok (.iload 5, 2) := by decide +kernel
theorem dX1_pass_99 : decode cX1_pass 99 = .ok (.isub, 1) := by decide +kernel
theorem dX1_pass_100 : decode cX1_pass 100 = .ok (.putfield 135, 3) := by decide +kernel
theorem dX1_pass_103 : decode cX1_pass 103 = .ok (.aload_n 2, 1) := by decide +kernel
theorem dX1_pass_104 : decode cX1_pass 104 = .ok (.aload_n 0, 1) := by decide +kernel
theorem dX1_pass_105 : decode cX1_pass 105 = .ok (.getfield 44, 3) := by decide +kernel
theorem dX1_pass_108 : decode cX1_pass 108 = .ok (.putfield 182, 3) := by decide +kernel
theorem dX1_pass_111 : decode cX1_pass 111 = .ok (.aload_n 0, 1) := by decide +kernel
theorem dX1_pass_112 : decode cX1_pass 112 = .ok (.dup, 1) := by decide +kernel
theorem dX1_pass_113 : decode cX1_pass 113 = .ok (.getfield 50, 3) := by decide +kernel
theorem dX1_pass_116 : decode cX1_pass 116 = .ok (.iconst 1, 1) := by decide +kernel
theorem dX1_pass_117 : decode cX1_pass 117 = .ok (.iadd, 1) := by decide +kernel
theorem dX1_pass_118 : decode cX1_pass 118 = .ok (.putfield 50, 3) := by decide +kernel
theorem dX1_pass_121 : decode cX1_pass 121 = .ok (.iload 5, 2) := by decide +kernel
theorem dX1_pass_123 : decode cX1_pass 123 = .ok (.ireturn, 1) := by decide +kernel
set_option maxRecDepth 20000 in
theorem ggX1_payForPassing_X1_payByHouse : GoodIn wsX1_payForPassing wsX1_payByHouse := goodIn_r _ [9, 4, 10, 11, 12, 13, 14, 15, 16, 17, 18, 19, 20, 21, 22, 23, 24, 25, 26, 27, 28, 29, 30, 31] (by decide +kernel) (by decide +kernel)
set_option maxRecDepth 20000 in
theorem gX1_payForPassing_X1_payByHouse : GoodIn wsX1_payForPassing (wsV RX1 198 RX1 yX1_payByHouse wsX1_payByHouse) := goodIn_app (goodIn_of _ (by decide +kernel)) ggX1_payForPassing_X1_payByHouse
theorem dX1_payForPassing_0 : decode cX1_payForPassing 0 = .ok (.aload_n 2, 1) := by decide +kernel
theorem dX1_payForPassing_1 : decode cX1_payForPassing 1 = .ok (.dup, 1) := by decide +kernel
theorem dX1_payForPassing_2 : decode cX1_payForPassing 2 = .ok (.getfield 135, 3) := by decide +kernel
theorem dX1_payForPassing_5 : decode cX1_payForPassing 5 = .ok (.iconst 1, 1) := by decide +kernel
theorem dX1_payForPassing_6 : decode cX1_payForPassing 6 = .ok (.iadd, 1) := by decide +kernel
theorem dX1_payForPassing_7 : decode cX1_payForPassing 7 = .ok (.putfield 135, 3) := by decide +kernel
theorem dX1_payForPassing_10 : decode cX1_payForPassing 10 = .ok (.aload_n 1, 1) := by decide +kernel
theorem dX1_payForPassing_11 : decode cX1_payForPassing 11 = .ok (.getfield 125, 3) := by decide +kernel
theorem dX1_payForPassing_14 : decode cX1_payForPassing 14 = .ok (.iconst 1, 1) := by decide +kernel
theorem dX1_payForPassing_15 : decode cX1_payForPassing 15 = .ok (.if_icmp .ne 17, 3) := by decide +kernel
theorem dX1_payForPassing_18 : decode cX1_payForPassing 18 = .ok (.aload_n 0, 1) := by decide +kernel
theorem dX1_payForPassing_19 : decode cX1_payForPassing 19 = .ok (.aload_n 2, 1) := by decide +kernel
theorem dX1_payForPassing_20 : decode cX1_payForPassing 20 = .ok (.aload_n 0, 1) := by decide +kernel
theorem dX1_payForPassing_21 : decode cX1_payForPassing 21 = .ok (.getfield 9, 3) := by decide +kernel
theorem dX1_payForPassing_24 : decode cX1_payForPassing 24 = .ok (.iconst 2, 1) := by decide +kernel
theorem dX1_payForPassing_25 : decode cX1_payForPassing 25 = .ok (.iaload, 1) := by decide +kernel
theorem dX1_payForPassing_26 : decode cX1_payForPassing 26 = .ok (.invokevirtual 198, 3) := by decide +kernel
theorem dX1_payForPassing_29 : decode cX1_payForPassing 29 = .ok (.goto 33, 3) := by decide +kernel
theorem dX1_payForPassing_32 : decode cX1_payForPassing 32 = .ok (.aload_n 1, 1) := by decide +kernel
theorem dX1_payForPassing_33 : decode cX1_payForPassing 33 = .ok (.dup, 1) := by decide +kernel
theorem dX1_payForPassing_34 : decode cX1_payForPassing 34 = .ok (.getfield 100, 3) := by decide +kernel
theorem dX1_payForPassing_37 : decode cX1_payForPassing 37 = .ok (.aload_n 0, 1) := by decide +kernel
theorem dX1_payForPassing_38 : decode cX1_payForPassing 38 = .ok (.getfield 9, 3) := by decide +kernel
theorem dX1_payForPassing_41 : decode cX1_payForPassing 41 = .ok (.iconst 2, 1) := by decide +kernel
theorem dX1_payForPassing_42 : decode cX1_payForPassing 42 = .ok (.iaload, 1) := by decide +kernel
theorem dX1_payForPassing_43 : decode cX1_payForPassing 43 = .ok (.isub, 1) := by decide +kernel
theorem dX1_payForPassing_44 : decode cX1_payForPassing 44 = .ok (.putfield 100, 3) := by decide +kernel
theorem dX1_payForPassing_47 : decode cX1_payForPassing 47 = .ok (.aload_n 2, 1) := by decide +kernel
theorem dX1_payForPassing_48 : decode cX1_payForPassing 48 = .ok (.dup, 1) := by decide +kernel
theorem dX1_payForPassing_49 : decode cX1_payForPassing 49 = .ok (.getfield 100, 3) := by decide +kernel
theorem dX1_payForPassing_52 : decode cX1_payForPassing 52 = .ok (.aload_n 0, 1) := by decide +kernel
theorem dX1_payForPassing_53 : decode cX1_payForPassing 53 = .ok (.getfield 9, 3) := by decide +kernel
theorem dX1_payForPassing_56 : decode cX1_payForPassing 56 = .ok (.iconst 2, 1) := by decide +kernel
theorem dX1_payForPassing_57 : decode cX1_payForPassing 57 = .ok (.iaload, 1) := by decide +kernel
theorem dX1_payForPassing_58 : decode cX1_payForPassing 58 = .ok (.iadd, 1) := by decide +kernel
theorem dX1_payForPassing_59 : decode cX1_payForPassing 59 = .ok (.putfield 100, 3) := by decide +kernel
theorem dX1_payForPassing_62 : decode cX1_payForPassing 62 = .ok (.return_, 1) := by decide +kernel
theorem dX1_payByHouse_0 : decode cX1_payByHouse 0 = .ok (.aload_n 1, 1) := by decide +kernel
theorem dX1_payByHouse_1 : decode cX1_payByHouse 1 = .ok (.dup, 1) := by decide +kernel
theorem dX1_payByHouse_2 : decode cX1_payByHouse 2 = .ok (.getfield 100, 3) := by decide +kernel
theorem dX1_payByHouse_5 : decode cX1_payByHouse 5 = .ok (.iload_n 2, 1) := by decide +kernel
theorem dX1_payByHouse_6 : decode cX1_payByHouse 6 = .ok (.iadd, 1) := by decide +kernel
theorem dX1_payByHouse_7 : decode cX1_payByHouse 7 = .ok (.putfield 100, 3) := by decide +kernel
theorem dX1_payByHouse_10 : decode cX1_payByHouse 10 = .ok (.aload_n 1, 1) := by decide +kernel
theorem dX1_payByHouse_11 : decode cX1_payByHouse 11 = .ok (.dup, 1) := by decide +kernel
theorem dX1_payByHouse_12 : decode cX1_payByHouse 12 = .ok (.getfield 129, 3) := by decide +kernel
theorem dX1_payByHouse_15 : decode cX1_payByHouse 15 = .ok (.iload_n 2, 1) := by decide +kernel
theorem dX1_payByHouse_16 : decode cX1_payByHouse 16 = .ok (.iadd, 1) := by decide +kernel
theorem dX1_payByHouse_17 : decode cX1_payByHouse 17 = .ok (.putfield 129, 3) := by decide +kernel
theorem dX1_payByHouse_20 : decode cX1_payByHouse 20 = .ok (.aload_n 0, 1) := by decide +kernel
theorem dX1_payByHouse_21 : decode cX1_payByHouse 21 = .ok (.dup, 1) := by decide +kernel
theorem dX1_payByHouse_22 : decode cX1_payByHouse 22 = .ok (.getfield 53, 3) := by decide +kernel
theorem dX1_payByHouse_25 : decode cX1_payByHouse 25 = .ok (.iload_n 2, 1) := by decide +kernel
theorem dX1_payByHouse_26 : decode cX1_payByHouse 26 = .ok (.iadd, 1) := by decide +kernel
theorem dX1_payByHouse_27 : decode cX1_payByHouse 27 = .ok (.putfield 53, 3) := by decide +kernel
theorem dX1_payByHouse_30 : decode cX1_payByHouse 30 = .ok (.return_, 1) := by decide +kernel
set_option maxRecDepth 20000 in
theorem ggX1_mayUnite_X1_isLine : GoodIn wsX1_mayUnite wsX1_isLine := goodIn_r _ [6, 7, 19, 20, 21, 22, 23, 24, 25, 26, 27, 28, 29] (by decide +kernel) (by decide +kernel)
set_option maxRecDepth 20000 in
theorem gX1_mayUnite_X1_isLine : GoodIn wsX1_mayUnite (wsV RX1 146 RX1 yX1_isLine wsX1_isLine) := goodIn_app (goodIn_of _ (by decide +kernel)) ggX1_mayUnite_X1_isLine
set_option maxRecDepth 20000 in
theorem ggX1_mayUnite_X1_lineOf : GoodIn wsX1_mayUnite wsX1_lineOf := goodIn_r _ [11, 12, 13, 19, 20, 21, 22, 23, 24, 25, 26, 27, 28, 29] (by decide +kernel) (by decide +kernel)
set_option maxRecDepth 20000 in
theorem gX1_mayUnite_X1_lineOf : GoodIn wsX1_mayUnite (wsV RX1 65 RX1 yX1_lineOf wsX1_lineOf) := goodIn_app (goodIn_of _ (by decide +kernel)) ggX1_mayUnite_X1_lineOf
theorem dX1_mayUnite_0 : decode cX1_mayUnite 0 = .ok (.aload_n 0, 1) := by decide +kernel
theorem dX1_mayUnite_1 : decode cX1_mayUnite 1 = .ok (.iload_n 1, 1) := by decide +kernel
theorem dX1_mayUnite_2 : decode cX1_mayUnite 2 = .ok (.invokevirtual 146, 3) := by decide +kernel
theorem dX1_mayUnite_5 : decode cX1_mayUnite 5 = .ok (.ifCond .eq 42, 3) := by decide +kernel
theorem dX1_mayUnite_8 : decode cX1_mayUnite 8 = .ok (.aload_n 0, 1) := by decide +kernel
theorem dX1_mayUnite_9 : decode cX1_mayUnite 9 = .ok (.iload_n 2, 1) := by decide +kernel
theorem dX1_mayUnite_10 : decode cX1_mayUnite 10 = .ok (.invokevirtual 146, 3) := by decide +kernel
theorem dX1_mayUnite_13 : decode cX1_mayUnite 13 = .ok (.ifCond .eq 34, 3) := by decide +kernel
theorem dX1_mayUnite_16 : decode cX1_mayUnite 16 = .ok (.iload_n 1, 1) := by decide +kernel
theorem dX1_mayUnite_17 : decode cX1_mayUnite 17 = .ok (.iload_n 2, 1) := by decide +kernel
theorem dX1_mayUnite_18 : decode cX1_mayUnite 18 = .ok (.if_icmp .eq 29, 3) := by decide +kernel
theorem dX1_mayUnite_21 : decode cX1_mayUnite 21 = .ok (.aload_n 0, 1) := by decide +kernel
theorem dX1_mayUnite_22 : decode cX1_mayUnite 22 = .ok (.iload_n 1, 1) := by decide +kernel
theorem dX1_mayUnite_23 : decode cX1_mayUnite 23 = .ok (.invokevirtual 65, 3) := by decide +kernel
theorem dX1_mayUnite_26 : decode cX1_mayUnite 26 = .ok (.getfield 106, 3) := by decide +kernel
theorem dX1_mayUnite_29 : decode cX1_mayUnite 29 = .ok (.aload_n 0, 1) := by decide +kernel
theorem dX1_mayUnite_30 : decode cX1_mayUnite 30 = .ok (.iload_n 2, 1) := by decide +kernel
theorem dX1_mayUnite_31 : decode cX1_mayUnite 31 = .ok (.invokevirtual 65, 3) := by decide +kernel
theorem dX1_mayUnite_34 : decode cX1_mayUnite 34 = .ok (.getfield 106, 3) := by decide +kernel
theorem dX1_mayUnite_37 : decode cX1_mayUnite 37 = .ok (.iadd, 1) := by decide +kernel
theorem dX1_mayUnite_38 : decode cX1_mayUnite 38 = .ok (.bipush 12, 2) := by decide +kernel
theorem dX1_mayUnite_40 : decode cX1_mayUnite 40 = .ok (.if_icmp .gt 7, 3) := by decide +kernel
theorem dX1_mayUnite_43 : decode cX1_mayUnite 43 = .ok (.iconst 1, 1) := by decide +kernel
theorem dX1_mayUnite_44 : decode cX1_mayUnite 44 = .ok (.goto 4, 3) := by decide +kernel
theorem dX1_mayUnite_47 : decode cX1_mayUnite 47 = .ok (.iconst 0, 1) := by decide +kernel
theorem dX1_mayUnite_48 : decode cX1_mayUnite 48 = .ok (.ireturn, 1) := by decide +kernel
set_option maxRecDepth 20000 in
theorem ggX1_unite_X1_mayUnite : GoodIn wsX1_unite wsX1_mayUnite := goodIn_r _ [8, 1, 9, 10, 11, 7, 12, 13, 14, 15, 16, 17, 18, 19, 54, 55, 56, 57, 58, 68, 69, 70, 71, 72, 73, 74, 75, 76, 77, 78] (by decide +kernel) (by decide +kernel)
set_option maxRecDepth 20000 in
theorem gX1_unite_X1_mayUnite : GoodIn wsX1_unite (wsV RX1 202 RX1 yX1_mayUnite wsX1_mayUnite) := goodIn_app (goodIn_of _ (by decide +kernel)) ggX1_unite_X1_mayUnite
set_option maxRecDepth 20000 in
theorem ggX1_unite_X1_lineOf : GoodIn wsX1_unite wsX1_lineOf := goodIn_r _ [17, 18, 19, 68, 69, 70, 71, 72, 73, 74, 75, 76, 77, 78] (by decide +kernel) (by decide +kernel)
set_option maxRecDepth 20000 in
theorem gX1_unite_X1_lineOf : GoodIn wsX1_unite (wsV RX1 65 RX1 yX1_lineOf wsX1_lineOf) := goodIn_app (goodIn_of _ (by decide +kernel)) ggX1_unite_X1_lineOf
set_option maxRecDepth 20000 in
theorem ggX1_unite_X3_who : GoodIn wsX1_unite wsX3_who := goodIn_r _ [24, 25, 26, 27, 28, 23, 29, 30, 54, 55, 56, 57, 58] (by decide +kernel) (by decide +kernel)
set_option maxRecDepth 20000 in
theorem gX1_unite_X3_who : GoodIn wsX1_unite (wsV RX1 119 RX3 yX3_who wsX3_who) := goodIn_app (goodIn_of _ (by decide +kernel)) ggX1_unite_X3_who
set_option maxRecDepth 20000 in
theorem ggX1_unite_X1_personOf : GoodIn wsX1_unite wsX1_personOf := goodIn_r _ [34, 35, 36, 68, 69, 70, 71, 72, 73, 74, 75, 76, 77, 78] (by decide +kernel) (by decide +kernel)
set_option maxRecDepth 20000 in
theorem gX1_unite_X1_personOf : GoodIn wsX1_unite (wsV RX1 73 RX1 yX1_personOf wsX1_personOf) := goodIn_app (goodIn_of _ (by decide +kernel)) ggX1_unite_X1_personOf
set_option maxRecDepth 20000 in
theorem ggX1_unite_X3_add : GoodIn wsX1_unite wsX3_add := goodIn_r _ [40, 30, 25, 54, 55, 56, 57, 58] (by decide +kernel) (by decide +kernel)
set_option maxRecDepth 20000 in
theorem gX1_unite_X3_add : GoodIn wsX1_unite (wsV RX1 160 RX3 yX3_add wsX3_add) := goodIn_app (goodIn_of _ (by decide +kernel)) ggX1_unite_X3_add
set_option maxRecDepth 20000 in
theorem ggX1_unite_X1_sortByStanding : GoodIn wsX1_unite wsX1_sortByStanding := goodIn_r _ [44, 1, 20, 21, 22, 23, 24, 25, 26, 27, 28, 29, 30, 45, 46, 47, 7, 48, 49, 31, 32, 33, 34, 35, 36, 50, 51, 52, 53, 54, 55, 56, 57, 58, 59, 60, 61, 62, 63, 64, 65, 66, 67, 68, 69, 70, 71, 72, 73, 74, 75, 76, 77, 78] (by decide +kernel) (by decide +kernel)
set_option maxRecDepth 20000 in
theorem gX1_unite_X1_sortByStanding : GoodIn wsX1_unite (wsV RX1 205 RX1 yX1_sortByStanding wsX1_sortByStanding) := goodIn_app (goodIn_of _ (by decide +kernel)) ggX1_unite_X1_sortByStanding
theorem dX1_unite_0 : decode cX1_unite 0 = .ok (.aload_n 0, 1) := by decide +kernel
theorem dX1_unite_1 : decode cX1_unite 1 = .ok (.iload_n 1, 1) := by decide +kernel
theorem dX1_unite_2 : decode cX1_unite 2 = .ok (.iload_n 2, 1) := by decide +kernel
theorem dX1_unite_3 : decode cX1_unite 3 = .ok (.invokevirtual 202, 3) := by decide +kernel
theorem dX1_unite_6 : decode cX1_unite 6 = .ok (.ifCond .ne 5, 3) := by decide +kernel
theorem dX1_unite_9 : decode cX1_unite 9 = .ok (.iconst (-1), 1) := by decide +kernel
theorem dX1_unite_10 : decode cX1_unite 10 = .ok (.ireturn, 1) := by decide +kernel
theorem dX1_unite_11 : decode cX1_unite 11 = .ok (.aload_n 0, 1) := by decide +kernel
theorem dX1_unite_12 : decode cX1_unite 12 = .ok (.iload_n 1, 1) := by decide +kernel
theorem dX1_unite_13 : decode cX1_unite 13 = .ok (.invokevirtual 65, 3) := by decide +kernel
theorem dX1_unite_16 : decode cX1_unite 16 = .ok (.astore_n 3, 1) := by decide +kernel
theorem dX1_unite_17 : decode cX1_unite 17 = .ok (.aload_n 0, 1) := by decide +kernel
theorem dX1_unite_18 : decode cX1_unite 18 = .ok (.iload_n 2, 1) := by decide +kernel
theorem dX1_unite_19 : decode cX1_unite 19 = .ok (.invokevirtual 65, 3) := by decide +kernel
theorem dX1_unite_22 : decode cX1_unite 22 = .ok (.astore 4, 2) := by decide +kernel
theorem dX1_unite_24 : decode cX1_unite 24 = .ok (.iconst 0, 1) := by decide +kernel
theorem dX1_unite_25 : decode cX1_unite 25 = .ok (.istore 5, 2) := by decide +kernel
theorem dX1_unite_27 : decode cX1_unite 27 = .ok (.iload 5, 2) := by decide +kernel
theorem dX1_unite_29 : decode cX1_unite 29 = .ok (.aload 4, 2) := by decide +kernel
theorem dX1_unite_31 : decode cX1_unite 31 = .ok (.getfield 106, 3) := by decide +kernel
theorem dX1_unite_34 : decode cX1_unite 34 = .ok (.if_icmp .ge 35, 3) := by decide +kernel
theorem dX1_unite_37 : decode cX1_unite 37 = .ok (.aload_n 0, 1) := by decide +kernel
theorem dX1_unite_38 : decode cX1_unite 38 = .ok (.aload 4, 2) := by decide +kernel
theorem dX1_unite_40 : decode cX1_unite 40 = .ok (.iload 5, 2) := by decide +kernel
theorem dX1_unite_42 : decode cX1_unite 42 = .ok (.invokevirtual 119, 3) := by decide +kernel
theorem dX1_unite_45 : decode cX1_unite 45 = .ok (.invokevirtual 73, 3) := by decide +kernel
theorem dX1_unite_48 : decode cX1_unite 48 = .ok (.iload_n 1, 1) := by decide +kernel
theorem dX1_unite_49 : decode cX1_unite 49 = .ok (.putfield 87, 3) := by decide +kernel
theorem dX1_unite_52 : decode cX1_unite 52 = .ok (.aload_n 3, 1) := by decide +kernel
theorem dX1_unite_53 : decode cX1_unite 53 = .ok (.aload 4, 2) := by decide +kernel
theorem dX1_unite_55 : decode cX1_unite 55 = .ok (.iload 5, 2) := by decide +kernel
theorem dX1_unite_57 : decode cX1_unite 57 = .ok (.invokevirtual 119, 3) := by decide +kernel
theorem dX1_unite_60 : decode cX1_unite 60 = .ok (.invokevirtual 160, 3) := by decide +kernel
theorem dX1_unite_63 : decode cX1_unite 63 = .ok (.iinc 5 1, 3) := by decide +kernel
theorem dX1_unite_66 : decode cX1_unite 66 = .ok (.goto (-39), 3) := by decide +kernel
theorem dX1_unite_69 : decode cX1_unite 69 = .ok (.aload 4, 2) := by decide +kernel
theorem dX1_unite_71 : decode cX1_unite 71 = .ok (.iconst 0, 1) := by decide +kernel
theorem dX1_unite_72 : decode cX1_unite 72 = .ok (.putfield 106, 3) := by decide +kernel
theorem dX1_unite_75 : decode cX1_unite 75 = .ok (.aload 4, 2) := by decide +kernel
theorem dX1_unite_77 : decode cX1_unite 77 = .ok (.iconst 0, 1) := by decide +kernel
theorem dX1_unite_78 : decode cX1_unite 78 = .ok (.putfield 109, 3) := by decide +kernel
theorem dX1_unite_81 : decode cX1_unite 81 = .ok (.aload_n 0, 1) := by decide +kernel
theorem dX1_unite_82 : decode cX1_unite 82 = .ok (.aload_n 3, 1) := by decide +kernel
theorem dX1_unite_83 : decode cX1_unite 83 = .ok (.invokevirtual 205, 3) := by decide +kernel
theorem dX1_unite_86 : decode cX1_unite 86 = .ok (.aload_n 3, 1) := by decide +kernel
theorem dX1_unite_87 : decode cX1_unite 87 = .ok (.getfield 106, 3) := by decide +kernel
theorem dX1_unite_90 : decode cX1_unite 90 = .ok (.ireturn, 1) := by decide +kernel
set_option maxRecDepth 20000 in
theorem ggX1_sortByStanding_X3_who : GoodIn wsX1_sortByStanding wsX3_who := goodIn_r _ [6, 7, 8, 9, 10, 5, 11, 12, 29, 30, 31, 32, 33] (by decide +kernel) (by decide +kernel)
set_option maxRecDepth 20000 in
theorem gX1_sortByStanding_X3_who : GoodIn wsX1_sortByStanding (wsV RX1 119 RX3 yX3_who wsX3_who) := goodIn_app (goodIn_of _ (by decide +kernel)) ggX1_sortByStanding_X3_who
set_option maxRecDepth 20000 in
theorem ggX1_sortByStanding_X1_standsBefore : GoodIn wsX1_sortByStanding wsX1_standsBefore := goodIn_r _ [17, 18, 19, 20, 21, 16, 22, 23, 24, 34, 35, 36, 37, 38, 39, 40, 41, 42, 43, 44, 45, 46, 47, 48, 49, 50, 51, 52, 53] (by decide +kernel) (by decide +kernel)
set_option maxRecDepth 20000 in
theorem gX1_sortByStanding_X1_standsBefore : GoodIn wsX1_sortByStanding (wsV RX1 208 RX1 yX1_standsBefore wsX1_standsBefore) := goodIn_app (goodIn_of _ (by decide +kernel)) ggX1_sortByStanding_X1_standsBefore
set_option maxRecDepth 20000 in
theorem ggX1_sortByStanding_X3_swap : GoodIn wsX1_sortByStanding wsX3_swap := goodIn_r _ [28, 7, 8, 9, 10, 5, 11, 12, 29, 30, 31, 32, 33] (by decide +kernel) (by decide +kernel)
set_option maxRecDepth 20000 in
theorem gX1_sortByStanding_X3_swap : GoodIn wsX1_sortByStanding (wsV RX1 178 RX3 yX3_swap wsX3_swap) := goodIn_app (goodIn_of _ (by decide +kernel)) ggX1_sortByStanding_X3_swap
theorem dX1_sortByStanding_0 : decode cX1_sortByStanding 0 = .ok (.iconst 1, 1) := by decide +kernel
theorem dX1_sortByStanding_1 : decode cX1_sortByStanding 1 = .ok (.istore_n 2, 1) := by decide +kernel
theorem dX1_sortByStanding_2 : decode cX1_sortByStanding 2 = .ok (.iload_n 2, 1) := by decide +kernel
theorem dX1_sortByStanding_3 : decode cX1_sortByStanding 3 = .ok (.aload_n 1, 1) := by decide +kernel
theorem dX1_sortByStanding_4 : decode cX1_sortByStanding 4 = .ok (.getfield 106, 3) := by decide +kernel
theorem dX1_sortByStanding_7 : decode cX1_sortByStanding 7 = .ok (.if_icmp .ge 48, 3) := by decide +kernel
theorem dX1_sortByStanding_10 : decode cX1_sortByStanding 10 = .ok (.iload_n 2, 1) := by decide +kernel
theorem dX1_sortByStanding_11 : decode cX1_sortByStanding 11 = .ok (.istore_n 3, 1) := by decide +kernel
theorem dX1_sortByStanding_12 : decode cX1_sortByStanding 12 = .ok (.iload_n 3, 1) := by decide +kernel
theorem dX1_sortByStanding_13 : decode cX1_sortByStanding 13 = .ok (.ifCond .le 36, 3) := by decide +kernel
theorem dX1_sortByStanding_16 : decode cX1_sortByStanding 16 = .ok (.aload_n 0, 1) := by decide +kernel
theorem dX1_sortByStanding_17 : decode cX1_sortByStanding 17 = .ok (.aload_n 1, 1) := by decide +kernel
theorem dX1_sortByStanding_18 : decode cX1_sortByStanding 18 = .ok (.iload_n 3, 1) := by decide +kernel
theorem dX1_sortByStanding_19 : decode cX1_sortByStanding 19 = .ok (.invokevirtual 119, 3) := by decide +kernel
theorem dX1_sortByStanding_22 : decode cX1_sortByStanding 22 = .ok (.aload_n 1, 1) := by decide +kernel
theorem dX1_sortByStanding_23 : decode cX1_sortByStanding 23 = .ok (.iload_n 3, 1) := by decide +kernel
theorem dX1_sortByStanding_24 : decode cX1_sortByStanding 24 = .ok (.iconst 1, 1) := by decide +kernel
theorem dX1_sortByStanding_25 : decode cX1_sortByStanding 25 = .ok (.isub, 1) := by decide +kernel
theorem dX1_sortByStanding_26 : decode cX1_sortByStanding 26 = .ok (.invokevirtual 119, 3) := by decide +kernel
theorem dX1_sortByStanding_29 : decode cX1_sortByStanding 29 = .ok (.invokevirtual 208, 3) := by decide +kernel
theorem dX1_sortByStanding_32 : decode cX1_sortByStanding 32 = .ok (.ifCond .eq 17, 3) := by decide +kernel
theorem dX1_sortByStanding_35 : decode cX1_sortByStanding 35 = .ok (.aload_n 1, 1) := by decide +kernel
theorem dX1_sortByStanding_36 : decode cX1_sortByStanding 36 = .ok (.iload_n 3, 1) := by decide +kernel
theorem dX1_sortByStanding_37 : decode cX1_sortByStanding 37 = .ok (.iconst 1, 1) := by decide +kernel
theorem dX1_sortByStanding_38 : decode cX1_sortByStanding 38 = .ok (.isub, 1) := by decide +kernel
theorem dX1_sortByStanding_39 : decode cX1_sortByStanding 39 = .ok (.iload_n 3, 1) := by decide +kernel
theorem dX1_sortByStanding_40 : decode cX1_sortByStanding 40 = .ok (.invokevirtual 178, 3) := by decide +kernel
theorem dX1_sortByStanding_43 : decode cX1_sortByStanding 43 = .ok (.iinc 3 (-1), 3) := by decide +kernel
theorem dX1_sortByStanding_46 : decode cX1_sortByStanding 46 = .ok (.goto (-34), 3) := by decide +kernel
theorem dX1_sortByStanding_49 : decode cX1_sortByStanding 49 = .ok (.iinc 2 1, 3) := by decide +kernel
theorem dX1_sortByStanding_52 : decode cX1_sortByStanding 52 = .ok (.goto (-50), 3) := by decide +kernel
theorem dX1_sortByStanding_55 : decode cX1_sortByStanding 55 = .ok (.return_, 1) := by decide +kernel
set_option maxRecDepth 20000 in
theorem ggX1_standsBefore_X1_personOf : GoodIn wsX1_standsBefore wsX1_personOf := goodIn_r _ [6, 7, 8, 18, 19, 20, 21, 22, 23, 24, 25, 26, 27, 28] (by decide +kernel) (by decide +kernel)
set_option maxRecDepth 20000 in
theorem gX1_standsBefore_X1_personOf : GoodIn wsX1_standsBefore (wsV RX1 73 RX1 yX1_personOf wsX1_personOf) := goodIn_app (goodIn_of _ (by decide +kernel)) ggX1_standsBefore_X1_personOf
theorem dX1_standsBefore_0 : decode cX1_standsBefore 0 = .ok (.aload_n 0, 1) := by decide +kernel
theorem dX1_standsBefore_1 : decode cX1_standsBefore 1 = .ok (.iload_n 1, 1) := by decide +kernel
theorem dX1_standsBefore_2 : decode cX1_standsBefore 2 = .ok (.invokevirtual 73, 3) := by decide +kernel
theorem dX1_standsBefore_5 : decode cX1_standsBefore 5 = .ok (.getfield 122, 3) := by decide +kernel
theorem dX1_standsBefore_8 : decode cX1_standsBefore 8 = .ok (.aload_n 0, 1) := by decide +kernel
theorem dX1_standsBefore_9 : decode cX1_standsBefore 9 = .ok (.iload_n 2, 1) := by decide +kernel
theorem dX1_standsBefore_10 : decode cX1_standsBefore 10 = .ok (.invokevirtual 73, 3) := by decide +kernel
theorem dX1_standsBefore_13 : decode cX1_standsBefore 13 = .ok (.getfield 122, 3) := by decide +kernel
theorem dX1_standsBefore_16 : decode cX1_standsBefore 16 = .ok (.isub, 1) := by decide +kernel
theorem dX1_standsBefore_17 : decode cX1_standsBefore 17 = .ok (.istore_n 3, 1) := by decide +kernel
theorem dX1_standsBefore_18 : decode cX1_standsBefore 18 = .ok (.iload_n 3, 1) := by decide +kernel
theorem dX1_standsBefore_19 : decode cX1_standsBefore 19 = .ok (.ifCond .gt 12, 3) := by decide +kernel
theorem dX1_standsBefore_22 : decode cX1_standsBefore 22 = .ok (.iload_n 3, 1) := by decide +kernel
theorem dX1_standsBefore_23 : decode cX1_standsBefore 23 = .ok (.ifCond .ne 12, 3) := by decide +kernel
theorem dX1_standsBefore_26 : decode cX1_standsBefore 26 = .ok (.iload_n 1, 1) := by decide +kernel
theorem dX1_standsBefore_27 : decode cX1_standsBefore 27 = .ok (.iload_n 2, 1) := by decide +kernel
theorem dX1_standsBefore_28 : decode cX1_standsBefore 28 = .ok (.if_icmp .ge 7, 3) := by decide +kernel
theorem dX1_standsBefore_31 : decode cX1_standsBefore 31 = .ok (.iconst 1, 1) := by decide +kernel
theorem dX1_standsBefore_32 : decode cX1_standsBefore 32 = .ok (.goto 4, 3) := by decide +kernel
theorem dX1_standsBefore_35 : decode cX1_standsBefore 35 = .ok (.iconst 0, 1) := by decide +kernel
theorem dX1_standsBefore_36 : decode cX1_standsBefore 36 = .ok (.ireturn, 1) := by decide +kernel
set_option maxRecDepth 20000 in
theorem ggX1_letPass_X1_certifyMinute : GoodIn wsX1_letPass wsX1_certifyMinute := goodIn_r _ [7, 8, 9, 10, 11, 12, 6, 13, 14, 15, 16, 17, 18, 19, 20, 21, 22, 23, 24, 73, 74, 75, 76, 77, 78, 79, 80, 81, 82, 83, 84, 85, 86, 87, 88, 89, 90, 91, 92] (by decide +kernel) (by decide +kernel)
set_option maxRecDepth 20000 in
theorem gX1_letPass_X1_certifyMinute : GoodIn wsX1_letPass (wsV RX1 211 RX1 yX1_certifyMinute wsX1_certifyMinute) := goodIn_app (goodIn_of _ (by decide +kernel)) ggX1_letPass_X1_certifyMinute
set_option maxRecDepth 20000 in
theorem ggX1_letPass_X1_lineOf : GoodIn wsX1_letPass wsX1_lineOf := goodIn_r _ [28, 29, 30, 73, 74, 75, 76, 77, 78, 79, 80, 81, 82, 83] (by decide +kernel) (by decide +kernel)
set_option maxRecDepth 20000 in
theorem gX1_letPass_X1_lineOf : GoodIn wsX1_letPass (wsV RX1 65 RX1 yX1_lineOf wsX1_lineOf) := goodIn_app (goodIn_of _ (by decide +kernel)) ggX1_letPass_X1_lineOf
set_option maxRecDepth 20000 in
theorem ggX1_letPass_X1_work : GoodIn wsX1_letPass wsX1_work := goodIn_r _ [34, 35, 36, 37, 38, 39, 40, 41, 42, 43, 44, 45, 46, 47, 48, 49, 19, 20, 21, 6, 22, 23, 24, 50, 51, 52, 53, 54, 55, 56, 57, 58, 59, 60, 93, 94, 95, 96, 97, 73, 74, 75, 76, 77, 78, 79, 80, 81, 82, 83, 84, 85, 86, 87, 88, 89, 90, 91, 92] (by decide +kernel) (by decide +kernel)
set_option maxRecDepth 20000 in
theorem gX1_letPass_X1_work : GoodIn wsX1_letPass (wsV RX1 214 RX1 yX1_work wsX1_work) := goodIn_app (goodIn_of _ (by decide +kernel)) ggX1_letPass_X1_work
set_option maxRecDepth 20000 in
theorem ggX1_letPass_X1_payFees : GoodIn wsX1_letPass wsX1_payFees := goodIn_r _ [64, 8, 9, 65, 19, 20, 21, 6, 22, 23, 24, 10, 11, 12, 13, 14, 15, 16, 17, 18, 66, 67, 68, 69, 70, 71, 72, 73, 74, 75, 76, 77, 78, 79, 80, 81, 82, 83, 84, 85, 86, 87, 88, 89, 90, 91, 92] (by decide +kernel) (by decide +kernel)
set_option maxRecDepth 20000 in
theorem gX1_letPass_X1_payFees : GoodIn wsX1_letPass (wsV RX1 217 RX1 yX1_payFees wsX1_payFees) := goodIn_app (goodIn_of _ (by decide +kernel)) ggX1_letPass_X1_payFees
theorem dX1_letPass_0 : decode cX1_letPass 0 = .ok (.iconst 0, 1) := by decide +kernel
theorem dX1_letPass_1 : decode cX1_letPass 1 = .ok (.istore_n 2, 1) := by decide +kernel
theorem dX1_letPass_2 : decode cX1_letPass 2 = .ok (.iconst 0, 1) := by decide +kernel
theorem dX1_letPass_3 : decode cX1_letPass 3 = .ok (.istore_n 3, 1) := by decide +kernel
theorem dX1_letPass_4 : decode cX1_letPass 4 = .ok (.iload_n 3, 1) := by decide +kernel
theorem dX1_letPass_5 : decode cX1_letPass 5 = .ok (.iload_n 1, 1) := by decide +kernel
theorem dX1_letPass_6 : decode cX1_letPass 6 = .ok (.if_icmp .ge 58, 3) := by decide +kernel
theorem dX1_letPass_9 : decode cX1_letPass 9 = .ok (.aload_n 0, 1) := by decide +kernel
theorem dX1_letPass_10 : decode cX1_letPass 10 = .ok (.dup, 1) := by decide +kernel
theorem dX1_letPass_11 : decode cX1_letPass 11 = .ok (.getfield 44, 3) := by decide +kernel
theorem dX1_letPass_14 : decode cX1_letPass 14 = .ok (.iconst 1, 1) := by decide +kernel
theorem dX1_letPass_15 : decode cX1_letPass 15 = .ok (.iadd, 1) := by decide +kernel
theorem dX1_letPass_16 : decode cX1_letPass 16 = .ok (.putfield 44, 3) := by decide +kernel
theorem dX1_letPass_19 : decode cX1_letPass 19 = .ok (.aload_n 0, 1) := by decide +kernel
theorem dX1_letPass_20 : decode cX1_letPass 20 = .ok (.invokevirtual 211, 3) := by decide +kernel
theorem dX1_letPass_23 : decode cX1_letPass 23 = .ok (.iconst 0, 1) := by decide +kernel
theorem dX1_letPass_24 : decode cX1_letPass 24 = .ok (.istore 4, 2) := by decide +kernel
theorem dX1_letPass_26 : decode cX1_letPass 26 = .ok (.iload 4, 2) := by decide +kernel
theorem dX1_letPass_28 : decode cX1_letPass 28 = .ok (.aload_n 0, 1) := by decide +kernel
theorem dX1_letPass_29 : decode cX1_letPass 29 = .ok (.getfield 37, 3) := by decide +kernel
theorem dX1_letPass_32 : decode cX1_letPass 32 = .ok (.if_icmp .ge 22, 3) := by decide +kernel
theorem dX1_letPass_35 : decode cX1_letPass 35 = .ok (.iload_n 2, 1) := by decide +kernel
theorem dX1_letPass_36 : decode cX1_letPass 36 = .ok (.aload_n 0, 1) := by decide +kernel
theorem dX1_letPass_37 : decode cX1_letPass 37 = .ok (.aload_n 0, 1) := by decide +kernel
theorem dX1_letPass_38 : decode cX1_letPass 38 = .ok (.iload 4, 2) := by decide +kernel
theorem dX1_letPass_40 : decode cX1_letPass 40 = .ok (.invokevirtual 65, 3) := by decide +kernel
theorem dX1_letPass_43 : decode cX1_letPass 43 = .ok (.invokevirtual 214, 3) := by decide +kernel
theorem dX1_letPass_46 : decode cX1_letPass 46 = .ok (.iadd, 1) := by decide +kernel
theorem dX1_letPass_47 : decode cX1_letPass 47 = .ok (.istore_n 2, 1) := by decide +kernel
theorem dX1_letPass_48 : decode cX1_letPass 48 = .ok (.iinc 4 1, 3) := by decide +kernel
theorem dX1_letPass_51 : decode cX1_letPass 51 = .ok (.goto (-25), 3) := by decide +kernel
theorem dX1_letPass_54 : decode cX1_letPass 54 = .ok (.aload_n 0, 1) := by decide +kernel
theorem dX1_letPass_55 : decode cX1_letPass 55 = .ok (.invokevirtual 217, 3) := by decide +kernel
theorem dX1_letPass_58 : decode cX1_letPass 58 = .ok (.iinc 3 1, 3) := by decide +kernel
theorem dX1_letPass_61 : decode cX1_letPass 61 = .ok (.goto (-57), 3) := by decide +kernel
theorem dX1_letPass_64 : decode cX1_letPass 64 = .ok (.iload_n 2, 1) := by decide +kernel
theorem dX1_letPass_65 : decode cX1_letPass 65 = .ok (.ireturn, 1) := by decide +kernel
set_option maxRecDepth 20000 in
theorem ggX1_certifyMinute_X1_stands : GoodIn wsX1_certifyMinute wsX1_stands := goodIn_r _ [7, 8, 9, 10, 11, 6, 12, 1, 13, 14, 15, 16, 17, 18, 30, 31, 32, 33, 34, 35, 36, 37, 38, 19, 20, 21, 22, 23, 24, 25, 26, 27, 28, 29] (by decide +kernel) (by decide +kernel)
set_option maxRecDepth 20000 in
theorem gX1_certifyMinute_X1_stands : GoodIn wsX1_certifyMinute (wsV RX1 163 RX1 yX1_stands wsX1_stands) := goodIn_app (goodIn_of _ (by decide +kernel)) ggX1_certifyMinute_X1_stands
set_option maxRecDepth 20000 in
theorem ggX1_certifyMinute_X1_personOf : GoodIn wsX1_certifyMinute wsX1_personOf := goodIn_r _ [16, 17, 18, 19, 20, 21, 22, 23, 24, 25, 26, 27, 28, 29] (by decide +kernel) (by decide +kernel)
set_option maxRecDepth 20000 in
theorem gX1_certifyMinute_X1_personOf : GoodIn wsX1_certifyMinute (wsV RX1 73 RX1 yX1_personOf wsX1_personOf) := goodIn_app (goodIn_of _ (by decide +kernel)) ggX1_certifyMinute_X1_personOf
theorem dX1_certifyMinute_0 : decode cX1_certifyMinute 0 = .ok (.iconst 0, 1) := by decide +kernel
theorem dX1_certifyMinute_1 : decode cX1_certifyMinute 1 = .ok (.istore_n 1, 1) := by decide +kernel
theorem dX1_certifyMinute_2 : decode cX1_certifyMinute 2 = .ok (.iload_n 1, 1) := by decide +kernel
theorem dX1_certifyMinute_3 : decode cX1_certifyMinute 3 = .ok (.aload_n 0, 1) := by decide +kernel
theorem dX1_certifyMinute_4 : decode cX1_certifyMinute 4 = .ok (.getfield 41, 3) := by decide +kernel
theorem dX1_certifyMinute_7 : decode cX1_certifyMinute 7 = .ok (.if_icmp .ge 31, 3) := by decide +kernel
theorem dX1_certifyMinute_10 : decode cX1_certifyMinute 10 = .ok (.aload_n 0, 1) := by decide +kernel
theorem dX1_certifyMinute_11 : decode cX1_certifyMinute 11 = .ok (.iload_n 1, 1) := by decide +kernel
theorem dX1_certifyMinute_12 : decode cX1_certifyMinute 12 = .ok (.invokevirtual 163, 3) := by decide +kernel
theorem dX1_certifyMinute_15 : decode cX1_certifyMinute 15 = .ok (.ifCond .eq 17, 3) := by decide +kernel
theorem dX1_certifyMinute_18 : decode cX1_certifyMinute 18 = .ok (.aload_n 0, 1) := by decide +kernel
theorem dX1_certifyMinute_19 : decode cX1_certifyMinute 19 = .ok (.iload_n 1, 1) := by decide +kernel
theorem dX1_certifyMinute_20 : decode cX1_certifyMinute 20 = .ok (.invokevirtual 73, 3) := by decide +kernel
theorem dX1_certifyMinute_23 : decode cX1_certifyMinute 23 = .ok (.dup, 1) := by decide +kernel
theorem dX1_certifyMinute_24 : decode cX1_certifyMinute 24 = .ok (.getfield 122, 3) := by decide +kernel
theorem dX1_certifyMinute_27 : decode cX1_certifyMinute 27 = .ok (.iconst 1, 1) := by decide +kernel
theorem dX1_certifyMinute_28 : decode cX1_certifyMinute 28 = .ok (.iadd, 1) := by decide +kernel
theorem dX1_certifyMinute_29 : decode cX1_certifyMinute 29 = .ok (.putfield 122, 3) := by decide +kernel
theorem dX1_certifyMinute_32 : decode cX1_certifyMinute 32 = .ok (.iinc 1 1, 3) := by decide +kernel
theorem dX1_certifyMinute_35 : decode cX1_certifyMinute 35 = .ok (.goto (-33), 3) := by decide +kernel
theorem dX1_certifyMinute_38 : decode cX1_certifyMinute 38 = .ok (.return_, 1) := by decide +kernel
set_option maxRecDepth 20000 in
theorem ggX1_work_X3_who : GoodIn wsX1_work wsX3_who := goodIn_r _ [9, 10, 11, 12, 13, 8, 14, 15, 34, 35, 36, 37, 38] (by decide +kernel) (by decide +kernel)
set_option maxRecDepth 20000 in
theorem gX1_work_X3_who : GoodIn wsX1_work (wsV RX1 119 RX3 yX3_who wsX3_who) := goodIn_app (goodIn_of _ (by decide +kernel)) ggX1_work_X3_who
set_option maxRecDepth 20000 in
theorem ggX1_work_X1_personOf : GoodIn wsX1_work wsX1_personOf := goodIn_r _ [20, 21, 22, 39, 40, 41, 42, 43, 44, 45, 46, 47, 48, 49] (by decide +kernel) (by decide +kernel)
set_option maxRecDepth 20000 in
theorem gX1_work_X1_personOf : GoodIn wsX1_work (wsV RX1 73 RX1 yX1_personOf wsX1_personOf) := goodIn_app (goodIn_of _ (by decide +kernel)) ggX1_work_X1_personOf
set_option maxRecDepth 20000 in
theorem ggX1_work_X4_end : GoodIn wsX1_work wsX4_end := goodIn_r _ [27, 28, 29, 50, 51, 52, 53, 54, 55, 56, 57, 58] (by decide +kernel) (by decide +kernel)
set_option maxRecDepth 20000 in
theorem gX1_work_X4_end : GoodIn wsX1_work (wsV RX1 169 RX4 yX4_end wsX4_end) := goodIn_app (goodIn_of _ (by decide +kernel)) ggX1_work_X4_end
set_option maxRecDepth 20000 in
theorem ggX1_work_X3_remove : GoodIn wsX1_work wsX3_remove := goodIn_r _ [33, 15, 10, 11, 12, 13, 8, 14, 34, 35, 36, 37, 38] (by decide +kernel) (by decide +kernel)
set_option maxRecDepth 20000 in
theorem gX1_work_X3_remove : GoodIn wsX1_work (wsV RX1 166 RX3 yX3_remove wsX3_remove) := goodIn_app (goodIn_of _ (by decide +kernel)) ggX1_work_X3_remove
theorem dX1_work_0 : decode cX1_work 0 = .ok (.aload_n 1, 1) := by decide +kernel
theorem dX1_work_1 : decode cX1_work 1 = .ok (.getfield 106, 3) := by decide +kernel
theorem dX1_work_4 : decode cX1_work 4 = .ok (.ifCond .ne 5, 3) := by decide +kernel
theorem dX1_work_7 : decode cX1_work 7 = .ok (.iconst 0, 1) := by decide +kernel
theorem dX1_work_8 : decode cX1_work 8 = .ok (.ireturn, 1) := by decide +kernel
theorem dX1_work_9 : decode cX1_work 9 = .ok (.aload_n 1, 1) := by decide +kernel
theorem dX1_work_10 : decode cX1_work 10 = .ok (.dup, 1) := by decide +kernel
theorem dX1_work_11 : decode cX1_work 11 = .ok (.getfield 109, 3) := by decide +kernel
theorem dX1_work_14 : decode cX1_work 14 = .ok (.iconst 1, 1) := by decide +kernel
theorem dX1_work_15 : decode cX1_work 15 = .ok (.iadd, 1) := by decide +kernel
theorem dX1_work_16 : decode cX1_work 16 = .ok (.putfield 109, 3) := by decide +kernel
theorem dX1_work_19 : decode cX1_work 19 = .ok (.aload_n 1, 1) := by decide +kernel
theorem dX1_work_20 : decode cX1_work 20 = .ok (.getfield 109, 3) := by decide +kernel
theorem dX1_work_23 : decode cX1_work 23 = .ok (.aload_n 1, 1) := by decide +kernel
theorem dX1_work_24 : decode cX1_work 24 = .ok (.getfield 103, 3) := by decide +kernel
theorem dX1_work_27 : decode cX1_work 27 = .ok (.if_icmp .ge 5, 3) := by decide +kernel
theorem dX1_work_30 : decode cX1_work 30 = .ok (.iconst 0, 1) := by decide +kernel
theorem dX1_work_31 : decode cX1_work 31 = .ok (.ireturn, 1) := by decide +kernel
theorem dX1_work_32 : decode cX1_work 32 = .ok (.aload_n 0, 1) := by decide +kernel
theorem dX1_work_33 : decode cX1_work 33 = .ok (.aload_n 1, 1) := by decide +kernel
theorem dX1_work_34 : decode cX1_work 34 = .ok (.iconst 0, 1) := by decide +kernel
theorem dX1_work_35 : decode cX1_work 35 = .ok (.invokevirtual 119, 3) := by decide +kernel
theorem dX1_work_38 : decode cX1_work 38 = .ok (.invokevirtual 73, 3) := by decide +kernel
theorem dX1_work_41 : decode cX1_work 41 = .ok (.iconst 1, 1) := by decide +kernel
theorem dX1_work_42 : decode cX1_work 42 = .ok (.invokevirtual 169, 3) := by decide +kernel
theorem dX1_work_45 : decode cX1_work 45 = .ok (.aload_n 1, 1) := by decide +kernel
theorem dX1_work_46 : decode cX1_work 46 = .ok (.iconst 0, 1) := by decide +kernel
theorem dX1_work_47 : decode cX1_work 47 = .ok (.invokevirtual 166, 3) := by decide +kernel
theorem dX1_work_50 : decode cX1_work 50 = .ok (.aload_n 1, 1) := by decide +kernel
theorem dX1_work_51 : decode cX1_work 51 = .ok (.iconst 0, 1) := by decide +kernel
theorem dX1_work_52 : decode cX1_work 52 = .ok (.putfield 109, 3) := by decide +kernel
theorem dX1_work_55 : decode cX1_work 55 = .ok (.aload_n 1, 1) := by decide +kernel
theorem dX1_work_56 : decode cX1_work 56 = .ok (.dup, 1) := by decide +kernel
theorem dX1_work_57 : decode cX1_work 57 = .ok (.getfield 112, 3) := by decide +kernel
theorem dX1_work_60 : decode cX1_work 60 = .ok (.iconst 1, 1) := by decide +kernel
theorem dX1_work_61 : decode cX1_work 61 = .ok (.iadd, 1) := by decide +kernel
theorem dX1_work_62 : decode cX1_work 62 = .ok (.putfield 112, 3) := by decide +kernel
theorem dX1_work_65 : decode cX1_work 65 = .ok (.iconst 1, 1) := by decide +kernel
theorem dX1_work_66 : decode cX1_work 66 = .ok (.ireturn, 1) := by decide +kernel
set_option maxRecDepth 20000 in
theorem ggX1_payFees_X1_personOf : GoodIn wsX1_payFees wsX1_personOf := goodIn_r _ [8, 9, 10, 27, 28, 29, 30, 31, 32, 33, 34, 35, 36, 37] (by decide +kernel) (by decide +kernel)
set_option maxRecDepth 20000 in
theorem gX1_payFees_X1_personOf : GoodIn wsX1_payFees (wsV RX1 73 RX1 yX1_personOf wsX1_personOf) := goodIn_app (goodIn_of _ (by decide +kernel)) ggX1_payFees_X1_personOf
set_option maxRecDepth 20000 in
theorem ggX1_payFees_X1_stands : GoodIn wsX1_payFees wsX1_stands := goodIn_r _ [14, 15, 16, 17, 18, 7, 19, 1, 4, 5, 6, 8, 9, 10, 38, 39, 40, 41, 42, 43, 44, 45, 46, 27, 28, 29, 30, 31, 32, 33, 34, 35, 36, 37] (by decide +kernel) (by decide +kernel)
set_option maxRecDepth 20000 in
theorem gX1_payFees_X1_stands : GoodIn wsX1_payFees (wsV RX1 163 RX1 yX1_stands wsX1_stands) := goodIn_app (goodIn_of _ (by decide +kernel)) ggX1_payFees_X1_stands
set_option maxRecDepth 20000 in
theorem ggX1_payFees_X1_payByHouse : GoodIn wsX1_payFees wsX1_payByHouse := goodIn_r _ [23, 24, 25, 26, 38, 39, 40, 41, 42, 43, 44, 45, 46, 27, 28, 29, 30, 31, 32, 33, 34, 35, 36, 37] (by decide +kernel) (by decide +kernel)
set_option maxRecDepth 20000 in
theorem gX1_payFees_X1_payByHouse : GoodIn wsX1_payFees (wsV RX1 198 RX1 yX1_payByHouse wsX1_payByHouse) := goodIn_app (goodIn_of _ (by decide +kernel)) ggX1_payFees_X1_payByHouse
theorem dX1_payFees_0 : decode cX1_payFees 0 = .ok (.iconst 0, 1) := by decide +kernel
theorem dX1_payFees_1 : decode cX1_payFees 1 = .ok (.istore_n 1, 1) := by decide +kernel
theorem dX1_payFees_2 : decode cX1_payFees 2 = .ok (.iload_n 1, 1) := by decide +kernel
theorem dX1_payFees_3 : decode cX1_payFees 3 = .ok (.aload_n 0, 1) := by decide +kernel
theorem dX1_payFees_4 : decode cX1_payFees 4 = .ok (.getfield 41, 3) := by decide +kernel
theorem dX1_payFees_7 : decode cX1_payFees 7 = .ok (.if_icmp .ge 59, 3) := by decide +kernel
theorem dX1_payFees_10 : decode cX1_payFees 10 = .ok (.aload_n 0, 1) := by decide +kernel
theorem dX1_payFees_11 : decode cX1_payFees 11 = .ok (.iload_n 1, 1) := by decide +kernel
theorem dX1_payFees_12 : decode cX1_payFees 12 = .ok (.invokevirtual 73, 3) := by decide +kernel
theorem dX1_payFees_15 : decode cX1_payFees 15 = .ok (.getfield 122, 3) := by decide +kernel
theorem dX1_payFees_18 : decode cX1_payFees 18 = .ok (.aload_n 0, 1) := by decide +kernel
theorem dX1_payFees_19 : decode cX1_payFees 19 = .ok (.getfield 9, 3) := by decide +kernel
theorem dX1_payFees_22 : decode cX1_payFees 22 = .ok (.iconst 0, 1) := by decide +kernel
theorem dX1_payFees_23 : decode cX1_payFees 23 = .ok (.iaload, 1) := by decide +kernel
theorem dX1_payFees_24 : decode cX1_payFees 24 = .ok (.isub, 1) := by decide +kernel
theorem dX1_payFees_25 : decode cX1_payFees 25 = .ok (.istore_n 2, 1) := by decide +kernel
theorem dX1_payFees_26 : decode cX1_payFees 26 = .ok (.aload_n 0, 1) := by decide +kernel
theorem dX1_payFees_27 : decode cX1_payFees 27 = .ok (.iload_n 1, 1) := by decide +kernel
theorem dX1_payFees_28 : decode cX1_payFees 28 = .ok (.invokevirtual 163, 3) := by decide +kernel
theorem dX1_payFees_31 : decode cX1_payFees 31 = .ok (.ifCond .eq 29, 3) := by decide +kernel
theorem dX1_payFees_34 : decode cX1_payFees 34 = .ok (.iload_n 2, 1) := by decide +kernel
theorem dX1_payFees_35 : decode cX1_payFees 35 = .ok (.ifCond .lt 25, 3) := by decide +kernel
theorem dX1_payFees_38 : decode cX1_payFees 38 = .ok (.iload_n 2, 1) := by decide +kernel
theorem dX1_payFees_39 : decode cX1_payFees 39 = .ok (.bipush 10, 2) := by decide +kernel
theorem dX1_payFees_41 : decode cX1_payFees 41 = .ok (.irem, 1) := by decide +kernel
theorem dX1_payFees_42 : decode cX1_payFees 42 = .ok (.ifCond .ne 18, 3) := by decide +kernel
theorem dX1_payFees_45 : decode cX1_payFees 45 = .ok (.aload_n 0, 1) := by decide +kernel
theorem dX1_payFees_46 : decode cX1_payFees 46 = .ok (.aload_n 0, 1) := by decide +kernel
theorem dX1_payFees_47 : decode cX1_payFees 47 = .ok (.iload_n 1, 1) := by decide +kernel
theorem dX1_payFees_48 : decode cX1_payFees 48 = .ok (.invokevirtual 73, 3) := by decide +kernel
theorem dX1_payFees_51 : decode cX1_payFees 51 = .ok (.aload_n 0, 1) := by decide +kernel
theorem dX1_payFees_52 : decode cX1_payFees 52 = .ok (.getfield 9, 3) := by decide +kernel
theorem dX1_payFees_55 : decode cX1_payFees 55 = .ok (.iconst 1, 1) := by decide +kernel
theorem dX1_payFees_56 : decode cX1_payFees 56 = .ok (.iaload, 1) := by decide +kernel
theorem dX1_payFees_57 : decode cX1_payFees 57 = .ok (.invokevirtual 198, 3) := by decide +kernel
theorem dX1_payFees_60 : decode cX1_payFees 60 = .ok (.iinc 1 1, 3) := by decide +kernel
theorem dX1_payFees_63 : decode cX1_payFees 63 = .ok (.goto (-61), 3) := by decide +kernel
theorem dX1_payFees_66 : decode cX1_payFees 66 = .ok (.return_, 1) := by decide +kernel
theorem dX1_changeSetting_0 : decode cX1_changeSetting 0 = .ok (.iload_n 1, 1) := by decide +kernel
theorem dX1_changeSetting_1 : decode cX1_changeSetting 1 = .ok (.ifCond .lt 12, 3) := by decide +kernel
theorem dX1_changeSetting_4 : decode cX1_changeSetting 4 = .ok (.iload_n 1, 1) := by decide +kernel
theorem dX1_changeSetting_5 : decode cX1_changeSetting 5 = .ok (.aload_n 0, 1) := by decide +kernel
theorem dX1_changeSetting_6 : decode cX1_changeSetting 6 = .ok (.getfield 9, 3) := by decide +kernel
theorem dX1_changeSetting_9 : decode cX1_changeSetting 9 = .ok (.arraylength, 1) := by decide +kernel
theorem dX1_changeSetting_10 : decode cX1_changeSetting 10 = .ok (.if_icmp .lt 5, 3) := by decide +kernel
theorem dX1_changeSetting_13 : decode cX1_changeSetting 13 = .ok (.iconst (-1), 1) := by decide +kernel
theorem dX1_changeSetting_14 : decode cX1_changeSetting 14 = .ok (.ireturn, 1) := by decide +kernel
theorem dX1_changeSetting_15 : decode cX1_changeSetting 15 = .ok (.aload_n 0, 1) := by decide +kernel
theorem dX1_changeSetting_16 : decode cX1_changeSetting 16 = .ok (.getfield 9, 3) := by decide +kernel
theorem dX1_changeSetting_19 : decode cX1_changeSetting 19 = .ok (.iload_n 1, 1) := by decide +kernel
theorem dX1_changeSetting_20 : decode cX1_changeSetting 20 = .ok (.iaload, 1) := by decide +kernel
theorem dX1_changeSetting_21 : decode cX1_changeSetting 21 = .ok (.istore_n 3, 1) := by decide +kernel
theorem dX1_changeSetting_22 : decode cX1_changeSetting 22 = .ok (.aload_n 0, 1) := by decide +kernel
theorem dX1_changeSetting_23 : decode cX1_changeSetting 23 = .ok (.getfield 9, 3) := by decide +kernel
theorem dX1_changeSetting_26 : decode cX1_changeSetting 26 = .ok (.iload_n 1, 1) := by decide +kernel
theorem dX1_changeSetting_27 : decode cX1_changeSetting 27 = .ok (.iload_n 2, 1) := by decide +kernel
theorem dX1_changeSetting_28 : decode cX1_changeSetting 28 = .ok (.iastore, 1) := by decide +kernel
theorem dX1_changeSetting_29 : decode cX1_changeSetting 29 = .ok (.iload_n 3, 1) := by decide +kernel
theorem dX1_changeSetting_30 : decode cX1_changeSetting 30 = .ok (.ireturn, 1) := by decide +kernel
set_option maxRecDepth 20000 in
theorem ggX1_waitOf_X1_personOf : GoodIn wsX1_waitOf wsX1_personOf := goodIn_r _ [6, 7, 8, 41, 42, 43, 44, 45, 46, 47, 48, 49, 50, 51] (by decide +kernel) (by decide +kernel)
set_option maxRecDepth 20000 in
theorem gX1_waitOf_X1_personOf : GoodIn wsX1_waitOf (wsV RX1 73 RX1 yX1_personOf wsX1_personOf) := goodIn_app (goodIn_of _ (by decide +kernel)) ggX1_waitOf_X1_personOf
set_option maxRecDepth 20000 in
theorem ggX1_waitOf_X1_lineOf : GoodIn wsX1_waitOf wsX1_lineOf := goodIn_r _ [12, 13, 14, 41, 42, 43, 44, 45, 46, 47, 48, 49, 50, 51] (by decide +kernel) (by decide +kernel)
set_option maxRecDepth 20000 in
theorem gX1_waitOf_X1_lineOf : GoodIn wsX1_waitOf (wsV RX1 65 RX1 yX1_lineOf wsX1_lineOf) := goodIn_app (goodIn_of _ (by decide +kernel)) ggX1_waitOf_X1_lineOf
set_option maxRecDepth 20000 in
theorem ggX1_waitOf_X1_placeOf : GoodIn wsX1_waitOf wsX1_placeOf := goodIn_r _ [18, 1, 2, 3, 4, 5, 6, 7, 8, 9, 10, 11, 12, 13, 14, 19, 20, 21, 22, 23, 24, 25, 32, 33, 34, 35, 36, 37, 38, 39, 40, 41, 42, 43, 44, 45, 46, 47, 48, 49, 50, 51, 52, 53, 54, 55, 56] (by decide +kernel) (by decide +kernel)
set_option maxRecDepth 20000 in
theorem gX1_waitOf_X1_placeOf : GoodIn wsX1_waitOf (wsV RX1 128 RX1 yX1_placeOf wsX1_placeOf) := goodIn_app (goodIn_of _ (by decide +kernel)) ggX1_waitOf_X1_placeOf
set_option maxRecDepth 20000 in
theorem ggX1_waitOf_X3_waitAt : GoodIn wsX1_waitOf wsX3_waitAt := goodIn_r _ [29, 30, 31, 52, 53, 54, 55, 56] (by decide +kernel) (by decide +kernel)
set_option maxRecDepth 20000 in
theorem gX1_waitOf_X3_waitAt : GoodIn wsX1_waitOf (wsV RX1 220 RX3 yX3_waitAt wsX3_waitAt) := goodIn_app (goodIn_of _ (by decide +kernel)) ggX1_waitOf_X3_waitAt
theorem dX1_waitOf_0 : decode cX1_waitOf 0 = .ok (.aload_n 0, 1) := by decide +kernel
theorem dX1_waitOf_1 : decode cX1_waitOf 1 = .ok (.aload_n 0, 1) := by decide +kernel
theorem dX1_waitOf_2 : decode cX1_waitOf 2 = .ok (.iload_n 1, 1) := by decide +kernel
theorem dX1_waitOf_3 : decode cX1_waitOf 3 = .ok (.invokevirtual 73, 3) := by decide +kernel
theorem dX1_waitOf_6 : decode cX1_waitOf 6 = .ok (.getfield 87, 3) := by decide +kernel
theorem dX1_waitOf_9 : decode cX1_waitOf 9 = .ok (.invokevirtual 65, 3) := by decide +kernel
theorem dX1_waitOf_12 : decode cX1_waitOf 12 = .ok (.aload_n 0, 1) := by decide +kernel
theorem dX1_waitOf_13 : decode cX1_waitOf 13 = .ok (.iload_n 1, 1) := by decide +kernel
theorem dX1_waitOf_14 : decode cX1_waitOf 14 = .ok (.invokevirtual 128, 3) := by decide +kernel
theorem dX1_waitOf_17 : decode cX1_waitOf 17 = .ok (.invokevirtual 220, 3) := by decide +kernel
theorem dX1_waitOf_20 : decode cX1_waitOf 20 = .ok (.ireturn, 1) := by decide +kernel
set_option maxRecDepth 20000 in
theorem ggX1_feesWithin_X1_stands : GoodIn wsX1_feesWithin wsX1_stands := goodIn_r _ [12, 13, 14, 15, 16, 11, 17, 1, 18, 19, 20, 21, 22, 23, 67, 68, 69, 70, 71, 72, 73, 74, 75, 56, 57, 58, 59, 60, 61, 62, 63, 64, 65, 66] (by decide +kernel) (by decide +kernel)
set_option maxRecDepth 20000 in
theorem gX1_feesWithin_X1_stands : GoodIn wsX1_feesWithin (wsV RX1 163 RX1 yX1_stands wsX1_stands) := goodIn_app (goodIn_of _ (by decide +kernel)) ggX1_feesWithin_X1_stands
set_option maxRecDepth 20000 in
theorem ggX1_feesWithin_X1_personOf : GoodIn wsX1_feesWithin wsX1_personOf := goodIn_r _ [21, 22, 23, 56, 57, 58, 59, 60, 61, 62, 63, 64, 65, 66] (by decide +kernel) (by decide +kernel)
set_option maxRecDepth 20000 in
theorem gX1_feesWithin_X1_personOf : GoodIn wsX1_feesWithin (wsV RX1 73 RX1 yX1_personOf wsX1_personOf) := goodIn_app (goodIn_of _ (by decide +kernel)) ggX1_feesWithin_X1_personOf
set_option maxRecDepth 20000 in
theorem ggX1_feesWithin_X1_waitOf : GoodIn wsX1_feesWithin wsX1_waitOf := goodIn_r _ [27, 28, 18, 19, 20, 11, 21, 22, 23, 29, 30, 31, 32, 33, 34, 35, 36, 37, 38, 39, 40, 41, 42, 43, 44, 45, 46, 47, 48, 49, 50, 51, 67, 68, 69, 70, 71, 72, 73, 74, 75, 56, 57, 58, 59, 60, 61, 62, 63, 64, 65, 66, 76, 77, 78, 79, 80] (by decide +kernel) (by decide +kernel)
set_option maxRecDepth 20000 in
theorem gX1_feesWithin_X1_waitOf : GoodIn wsX1_feesWithin (wsV RX1 223 RX1 yX1_waitOf wsX1_waitOf) := goodIn_app (goodIn_of _ (by decide +kernel)) ggX1_feesWithin_X1_waitOf
set_option maxRecDepth 20000 in
theorem ggX1_feesWithin_X1_feesUpTo : GoodIn wsX1_feesWithin wsX1_feesUpTo := goodIn_r _ [55, 7, 56, 57, 58, 59, 60, 61, 62, 63, 64, 65, 66] (by decide +kernel) (by decide +kernel)
set_option maxRecDepth 20000 in
theorem gX1_feesWithin_X1_feesUpTo : GoodIn wsX1_feesWithin (wsV RX1 226 RX1 yX1_feesUpTo wsX1_feesUpTo) := goodIn_app (goodIn_of _ (by decide +kernel)) ggX1_feesWithin_X1_feesUpTo
theorem dX1_feesWithin_0 : decode cX1_feesWithin 0 = .ok (.iconst 0, 1) := by decide +kernel
theorem dX1_feesWithin_1 : decode cX1_feesWithin 1 = .ok (.istore_n 2, 1) := by decide +kernel
theorem dX1_feesWithin_2 : decode cX1_feesWithin 2 = .ok (.iconst 0, 1) := by decide +kernel
theorem dX1_feesWithin_3 : decode cX1_feesWithin 3 = .ok (.istore_n 3, 1) := by decide +kernel
theorem dX1_feesWithin_4 : decode cX1_feesWithin 4 = .ok (.iload_n 3, 1) := by decide +kernel
theorem dX1_feesWithin_5 : decode cX1_feesWithin 5 = .ok (.aload_n 0, 1) := by decide +kernel
theorem dX1_feesWithin_6 : decode cX1_feesWithin 6 = .ok (.getfield 41, 3) := by decide +kernel
theorem dX1_feesWithin_9 : decode cX1_feesWithin 9 = .ok (.if_icmp .ge 59, 3) := by decide +kernel
theorem dX1_feesWithin_12 : decode cX1_feesWithin 12 = .ok (.aload_n 0, 1) := by decide +kernel
theorem dX1_feesWithin_13 : decode cX1_feesWithin 13 = .ok (.iload_n 3, 1) := by decide +kernel
theorem dX1_feesWithin_14 : decode cX1_feesWithin 14 = .ok (.invokevirtual 163, 3) := by decide +kernel
theorem dX1_feesWithin_17 : decode cX1_feesWithin 17 = .ok (.ifCond .eq 45, 3) := by decide +kernel
theorem dX1_feesWithin_20 : decode cX1_feesWithin 20 = .ok (.aload_n 0, 1) := by decide +kernel
theorem dX1_feesWithin_21 : decode cX1_feesWithin 21 = .ok (.iload_n 3, 1) := by decide +kernel
theorem dX1_feesWithin_22 : decode cX1_feesWithin 22 = .ok (.invokevirtual 73, 3) := by decide +kernel
theorem dX1_feesWithin_25 : decode cX1_feesWithin 25 = .ok (.getfield 122, 3) := by decide +kernel
theorem dX1_feesWithin_28 : decode cX1_feesWithin 28 = .ok (.istore 4, 2) := by decide +kernel
theorem dX1_feesWithin_30 : decode cX1_feesWithin 30 = .ok (.iload_n 1, 1) := by decide +kernel
theorem dX1_feesWithin_31 : decode cX1_feesWithin 31 = .ok (.aload_n 0, 1) := by decide +kernel
theorem dX1_feesWithin_32 : decode cX1_feesWithin 32 = .ok (.iload_n 3, 1) := by decide +kernel
theorem dX1_feesWithin_33 : decode cX1_feesWithin 33 = .ok (.invokevirtual 223, 3) := by decide +kernel
theorem dX1_feesWithin_36 : decode cX1_feesWithin 36 = .ok (.iconst 1, 1) := by decide +kernel
theorem dX1_feesWithin_37 : decode cX1_feesWithin 37 = .ok (.isub, 1) := by decide +kernel
theorem dX1_feesWithin_38 : decode cX1_feesWithin 38 = .ok (.invokestatic 188, 3) := by decide +kernel
theorem dX1_feesWithin_41 : decode cX1_feesWithin 41 = .ok (.istore 5, 2) := by decide +kernel
theorem dX1_feesWithin_43 : decode cX1_feesWithin 43 = .ok (.iload_n 2, 1) := by decide +kernel
theorem dX1_feesWithin_44 : decode cX1_feesWithin 44 = .ok (.aload_n 0, 1) := by decide +kernel
theorem dX1_feesWithin_45 : decode cX1_feesWithin 45 = .ok (.iload 4, 2) := by decide +kernel
theorem dX1_feesWithin_47 : decode cX1_feesWithin 47 = .ok (.iload 5, 2) := by decide +kernel
theorem dX1_feesWithin_49 : decode cX1_feesWithin 49 = .ok (.iadd, 1) := by decide +kernel
theorem dX1_feesWithin_50 : decode cX1_feesWithin 50 = .ok (.invokevirtual 226, 3) := by decide +kernel
theorem dX1_feesWithin_53 : decode cX1_feesWithin 53 = .ok (.aload_n 0, 1) := by decide +kernel
theorem dX1_feesWithin_54 : decode cX1_feesWithin 54 = .ok (.iload 4, 2) := by decide +kernel
theorem dX1_feesWithin_56 : decode cX1_feesWithin 56 = .ok (.invokevirtual 226, 3) := by decide +kernel
theorem dX1_feesWithin_59 : decode cX1_feesWithin 59 = .ok (.isub, 1) := by decide +kernel
theorem dX1_feesWithin_60 : decode cX1_feesWithin 60 = .ok (.iadd, 1) := by decide +kernel
theorem dX1_feesWithin_61 : decode cX1_feesWithin 61 = .ok (.istore_n 2, 1) := by decide +kernel
theorem dX1_feesWithin_62 : decode cX1_feesWithin 62 = .ok (.iinc 3 1, 3) := by decide +kernel
theorem dX1_feesWithin_65 : decode cX1_feesWithin 65 = .ok (.goto (-61), 3) := by decide +kernel
theorem dX1_feesWithin_68 : decode cX1_feesWithin 68 = .ok (.iload_n 2, 1) := by decide +kernel
theorem dX1_feesWithin_69 : decode cX1_feesWithin 69 = .ok (.aload_n 0, 1) := by decide +kernel
theorem dX1_feesWithin_70 : decode cX1_feesWithin 70 = .ok (.getfield 9, 3) := by decide +kernel
theorem dX1_feesWithin_73 : decode cX1_feesWithin 73 = .ok (.iconst 1, 1) := by decide +kernel
theorem dX1_feesWithin_74 : decode cX1_feesWithin 74 = .ok (.iaload, 1) := by decide +kernel
theorem dX1_feesWithin_75 : decode cX1_feesWithin 75 = .ok (.imul, 1) := by decide +kernel
theorem dX1_feesWithin_76 : decode cX1_feesWithin 76 = .ok (.ireturn, 1) := by decide +kernel
theorem dX1_feesUpTo_0 : decode cX1_feesUpTo 0 = .ok (.iload_n 1, 1) := by decide +kernel
theorem dX1_feesUpTo_1 : decode cX1_feesUpTo 1 = .ok (.aload_n 0, 1) := by decide +kernel
theorem dX1_feesUpTo_2 : decode cX1_feesUpTo 2 = .ok (.getfield 9, 3) := by decide +kernel
theorem dX1_feesUpTo_5 : decode cX1_feesUpTo 5 = .ok (.iconst 0, 1) := by decide +kernel
theorem dX1_feesUpTo_6 : decode cX1_feesUpTo 6 = .ok (.iaload, 1) := by decide +kernel
theorem dX1_feesUpTo_7 : decode cX1_feesUpTo 7 = .ok (.isub, 1) := by decide +kernel
theorem dX1_feesUpTo_8 : decode cX1_feesUpTo 8 = .ok (.istore_n 2, 1) := by decide +kernel
theorem dX1_feesUpTo_9 : decode cX1_feesUpTo 9 = .ok (.iload_n 2, 1) := by decide +kernel
theorem dX1_feesUpTo_10 : decode cX1_feesUpTo 10 = .ok (.ifCond .ge 7, 3) := by decide +kernel
theorem dX1_feesUpTo_13 : decode cX1_feesUpTo 13 = .ok (.iconst 0, 1) := by decide +kernel
theorem dX1_feesUpTo_14 : decode cX1_feesUpTo 14 = .ok (.goto 9, 3) := by decide +kernel
theorem dX1_feesUpTo_17 : decode cX1_feesUpTo 17 = .ok (.iload_n 2, 1) := by decide +kernel
theorem dX1_feesUpTo_18 : decode cX1_feesUpTo 18 = .ok (.bipush 10, 2) := by decide +kernel
theorem dX1_feesUpTo_20 : decode cX1_feesUpTo 20 = .ok (.idiv, 1) := by decide +kernel
theorem dX1_feesUpTo_21 : decode cX1_feesUpTo 21 = .ok (.iconst 1, 1) := by decide +kernel
theorem dX1_feesUpTo_22 : decode cX1_feesUpTo 22 = .ok (.iadd, 1) := by decide +kernel
theorem dX1_feesUpTo_23 : decode cX1_feesUpTo 23 = .ok (.ireturn, 1) := by decide +kernel
set_option maxRecDepth 20000 in
theorem ggX1_profit_X1_personOf : GoodIn wsX1_profit wsX1_personOf := goodIn_r _ [6, 7, 8, 46, 47, 48, 49, 50, 51, 52, 53, 54, 55, 56] (by decide +kernel) (by decide +kernel)
set_option maxRecDepth 20000 in
theorem gX1_profit_X1_personOf : GoodIn wsX1_profit (wsV RX1 73 RX1 yX1_personOf wsX1_personOf) := goodIn_app (goodIn_of _ (by decide +kernel)) ggX1_profit_X1_personOf
set_option maxRecDepth 20000 in
theorem ggX1_profit_X1_lineOf : GoodIn wsX1_profit wsX1_lineOf := goodIn_r _ [12, 13, 14, 46, 47, 48, 49, 50, 51, 52, 53, 54, 55, 56] (by decide +kernel) (by decide +kernel)
set_option maxRecDepth 20000 in
theorem gX1_profit_X1_lineOf : GoodIn wsX1_profit (wsV RX1 65 RX1 yX1_lineOf wsX1_lineOf) := goodIn_app (goodIn_of _ (by decide +kernel)) ggX1_profit_X1_lineOf
set_option maxRecDepth 20000 in
theorem ggX1_profit_X1_placeOf : GoodIn wsX1_profit wsX1_placeOf := goodIn_r _ [18, 1, 2, 3, 4, 5, 6, 7, 8, 9, 10, 11, 12, 13, 14, 19, 20, 21, 22, 23, 24, 25, 37, 38, 39, 40, 41, 42, 43, 44, 45, 46, 47, 48, 49, 50, 51, 52, 53, 54, 55, 56, 57, 58, 59, 60, 61] (by decide +kernel) (by decide +kernel)
set_option maxRecDepth 20000 in
theorem gX1_profit_X1_placeOf : GoodIn wsX1_profit (wsV RX1 128 RX1 yX1_placeOf wsX1_placeOf) := goodIn_app (goodIn_of _ (by decide +kernel)) ggX1_profit_X1_placeOf
set_option maxRecDepth 20000 in
theorem ggX1_profit_X3_waitAt : GoodIn wsX1_profit wsX3_waitAt := goodIn_r _ [29, 30, 31, 57, 58, 59, 60, 61] (by decide +kernel) (by decide +kernel)
set_option maxRecDepth 20000 in
theorem gX1_profit_X3_waitAt : GoodIn wsX1_profit (wsV RX1 220 RX3 yX3_waitAt wsX3_waitAt) := goodIn_app (goodIn_of _ (by decide +kernel)) ggX1_profit_X3_waitAt
set_option maxRecDepth 20000 in
theorem ggX1_profit_X1_priceOf : GoodIn wsX1_profit wsX1_priceOf := goodIn_r _ [35, 36, 46, 47, 48, 49, 50, 51, 52, 53, 54, 55, 56] (by decide +kernel) (by decide +kernel)
set_option maxRecDepth 20000 in
theorem gX1_profit_X1_priceOf : GoodIn wsX1_profit (wsV RX1 172 RX1 yX1_priceOf wsX1_priceOf) := goodIn_app (goodIn_of _ (by decide +kernel)) ggX1_profit_X1_priceOf
theorem dX1_profit_0 : decode cX1_profit 0 = .ok (.aload_n 0, 1) := by decide +kernel
theorem dX1_profit_1 : decode cX1_profit 1 = .ok (.aload_n 0, 1) := by decide +kernel
theorem dX1_profit_2 : decode cX1_profit 2 = .ok (.iload_n 1, 1) := by decide +kernel
theorem dX1_profit_3 : decode cX1_profit 3 = .ok (.invokevirtual 73, 3) := by decide +kernel
theorem dX1_profit_6 : decode cX1_profit 6 = .ok (.getfield 87, 3) := by decide +kernel
theorem dX1_profit_9 : decode cX1_profit 9 = .ok (.invokevirtual 65, 3) := by decide +kernel
theorem dX1_profit_12 : decode cX1_profit 12 = .ok (.astore_n 3, 1) := by decide +kernel
theorem dX1_profit_13 : decode cX1_profit 13 = .ok (.aload_n 0, 1) := by decide +kernel
theorem dX1_profit_14 : decode cX1_profit 14 = .ok (.iload_n 1, 1) := by decide +kernel
theorem dX1_profit_15 : decode cX1_profit 15 = .ok (.invokevirtual 128, 3) := by decide +kernel
theorem dX1_profit_18 : decode cX1_profit 18 = .ok (.istore 4, 2) := by decide +kernel
theorem dX1_profit_20 : decode cX1_profit 20 = .ok (.aload_n 0, 1) := by decide +kernel
theorem dX1_profit_21 : decode cX1_profit 21 = .ok (.iload_n 2, 1) := by decide +kernel
theorem dX1_profit_22 : decode cX1_profit 22 = .ok (.invokevirtual 128, 3) := by decide +kernel
theorem dX1_profit_25 : decode cX1_profit 25 = .ok (.istore 5, 2) := by decide +kernel
theorem dX1_profit_27 : decode cX1_profit 27 = .ok (.aload_n 3, 1) := by decide +kernel
theorem dX1_profit_28 : decode cX1_profit 28 = .ok (.iload 4, 2) := by decide +kernel
theorem dX1_profit_30 : decode cX1_profit 30 = .ok (.invokevirtual 220, 3) := by decide +kernel
theorem dX1_profit_33 : decode cX1_profit 33 = .ok (.aload_n 3, 1) := by decide +kernel
theorem dX1_profit_34 : decode cX1_profit 34 = .ok (.iload 5, 2) := by decide +kernel
theorem dX1_profit_36 : decode cX1_profit 36 = .ok (.invokevirtual 220, 3) := by decide +kernel
theorem dX1_profit_39 : decode cX1_profit 39 = .ok (.isub, 1) := by decide +kernel
theorem dX1_profit_40 : decode cX1_profit 40 = .ok (.aload_n 0, 1) := by decide +kernel
theorem dX1_profit_41 : decode cX1_profit 41 = .ok (.iload 4, 2) := by decide +kernel
theorem dX1_profit_43 : decode cX1_profit 43 = .ok (.iload 5, 2) := by decide +kernel
theorem dX1_profit_45 : decode cX1_profit 45 = .ok (.isub, 1) := by decide +kernel
theorem dX1_profit_46 : decode cX1_profit 46 = .ok (.invokevirtual 172, 3) := by decide +kernel
theorem dX1_profit_49 : decode cX1_profit 49 = .ok (.isub, 1) := by decide +kernel
theorem dX1_profit_50 : decode cX1_profit 50 = .ok (.ireturn, 1) := by decide +kernel
set_option maxRecDepth 20000 in
theorem ggX1_bestPartner_X1_mayTrade : GoodIn wsX1_bestPartner wsX1_mayTrade := goodIn_r _ [6, 7, 8, 9, 10, 11, 12, 5, 13, 14, 15, 16, 17, 18, 1, 19, 20, 21, 22, 23, 24, 25, 26, 27, 28, 29, 30, 31, 32, 33, 34, 35, 36, 37, 38, 39, 40, 41, 42, 43, 44, 45, 46, 68, 69, 70, 71, 72, 73, 74, 75, 76, 57, 58, 59, 60, 61, 62, 63, 64, 65, 66, 67, 77, 78, 79, 80, 81] (by decide +kernel) (by decide +kernel)
set_option maxRecDepth 20000 in
theorem gX1_bestPartner_X1_mayTrade : GoodIn wsX1_bestPartner (wsV RX1 175 RX1 yX1_mayTrade wsX1_mayTrade) := goodIn_app (goodIn_of _ (by decide +kernel)) ggX1_bestPartner_X1_mayTrade
set_option maxRecDepth 20000 in
theorem ggX1_bestPartner_X1_profit : GoodIn wsX1_bestPartner wsX1_profit := goodIn_r _ [50, 7, 19, 20, 21, 5, 22, 23, 24, 29, 30, 31, 32, 33, 34, 25, 26, 27, 28, 35, 36, 37, 38, 39, 40, 41, 51, 52, 53, 54, 55, 56, 42, 43, 44, 45, 46, 68, 69, 70, 71, 72, 73, 74, 75, 76, 57, 58, 59, 60, 61, 62, 63, 64, 65, 66, 67, 77, 78, 79, 80, 81] (by decide +kernel) (by decide +kernel)
set_option maxRecDepth 20000 in
theorem gX1_bestPartner_X1_profit : GoodIn wsX1_bestPartner (wsV RX1 229 RX1 yX1_profit wsX1_profit) := goodIn_app (goodIn_of _ (by decide +kernel)) ggX1_bestPartner_X1_profit
theorem dX1_bestPartner_0 : decode cX1_bestPartner 0 = .ok (.iconst (-1), 1) := by decide +kernel
theorem dX1_bestPartner_1 : decode cX1_bestPartner 1 = .ok (.istore_n 2, 1) := by decide +kernel
theorem dX1_bestPartner_2 : decode cX1_bestPartner 2 = .ok (.iconst 0, 1) := by decide +kernel
theorem dX1_bestPartner_3 : decode cX1_bestPartner 3 = .ok (.istore_n 3, 1) := by decide +kernel
theorem dX1_bestPartner_4 : decode cX1_bestPartner 4 = .ok (.iload_n 3, 1) := by decide +kernel
theorem dX1_bestPartner_5 : decode cX1_bestPartner 5 = .ok (.aload_n 0, 1) := by decide +kernel
theorem dX1_bestPartner_6 : decode cX1_bestPartner 6 = .ok (.getfield 41, 3) := by decide +kernel
theorem dX1_bestPartner_9 : decode cX1_bestPartner 9 = .ok (.if_icmp .ge 40, 3) := by decide +kernel
theorem dX1_bestPartner_12 : decode cX1_bestPartner 12 = .ok (.aload_n 0, 1) := by decide +kernel
theorem dX1_bestPartner_13 : decode cX1_bestPartner 13 = .ok (.iload_n 1, 1) := by decide +kernel
theorem dX1_bestPartner_14 : decode cX1_bestPartner 14 = .ok (.iload_n 3, 1) := by decide +kernel
theorem dX1_bestPartner_15 : decode cX1_bestPartner 15 = .ok (.invokevirtual 175, 3) := by decide +kernel
theorem dX1_bestPartner_18 : decode cX1_bestPartner 18 = .ok (.ifCond .eq 25, 3) := by decide +kernel
theorem dX1_bestPartner_21 : decode cX1_bestPartner 21 = .ok (.iload_n 2, 1) := by decide +kernel
theorem dX1_bestPartner_22 : decode cX1_bestPartner 22 = .ok (.iconst (-1), 1) := by decide +kernel
theorem dX1_bestPartner_23 : decode cX1_bestPartner 23 = .ok (.if_icmp .eq 18, 3) := by decide +kernel
theorem dX1_bestPartner_26 : decode cX1_bestPartner 26 = .ok (.aload_n 0, 1) := by decide +kernel
theorem dX1_bestPartner_27 : decode cX1_bestPartner 27 = .ok (.iload_n 1, 1) := by decide +kernel
theorem dX1_bestPartner_28 : decode cX1_bestPartner 28 = .ok (.iload_n 3, 1) := by decide +kernel
theorem dX1_bestPartner_29 : decode cX1_bestPartner 29 = .ok (.invokevirtual 229, 3) := by decide +kernel
theorem dX1_bestPartner_32 : decode cX1_bestPartner 32 = .ok (.aload_n 0, 1) := by decide +kernel
theorem dX1_bestPartner_33 : decode cX1_bestPartner 33 = .ok (.iload_n 1, 1) := by decide +kernel
theorem dX1_bestPartner_34 : decode cX1_bestPartner 34 = .ok (.iload_n 2, 1) := by decide +kernel
theorem dX1_bestPartner_35 : decode cX1_bestPartner 35 = .ok (.invokevirtual 229, 3) := by decide +kernel
theorem dX1_bestPartner_38 : decode cX1_bestPartner 38 = .ok (.if_icmp .le 5, 3) := by decide +kernel
theorem dX1_bestPartner_41 : decode cX1_bestPartner 41 = .ok (.iload_n 3, 1) := by decide +kernel
theorem dX1_bestPartner_42 : decode cX1_bestPartner 42 = .ok (.istore_n 2, 1) := by decide +kernel
theorem dX1_bestPartner_43 : decode cX1_bestPartner 43 = .ok (.iinc 3 1, 3) := by decide +kernel
theorem dX1_bestPartner_46 : decode cX1_bestPartner 46 = .ok (.goto (-42), 3) := by decide +kernel
theorem dX1_bestPartner_49 : decode cX1_bestPartner 49 = .ok (.iload_n 2, 1) := by decide +kernel
theorem dX1_bestPartner_50 : decode cX1_bestPartner 50 = .ok (.ireturn, 1) := by decide +kernel
set_option maxRecDepth 20000 in
theorem ggX1_soonestLine_X1_mayEnter : GoodIn wsX1_soonestLine wsX1_mayEnter := goodIn_r _ [6, 7, 8, 9, 10, 11, 5, 12, 1, 13, 14, 15, 16, 17, 18, 19, 20, 21, 33, 34, 35, 36, 37, 38, 39, 40, 41, 42, 43, 44, 45, 46, 47, 48] (by decide +kernel) (by decide +kernel)
set_option maxRecDepth 20000 in
theorem gX1_soonestLine_X1_mayEnter : GoodIn wsX1_soonestLine (wsV RX1 152 RX1 yX1_mayEnter wsX1_mayEnter) := goodIn_app (goodIn_of _ (by decide +kernel)) ggX1_soonestLine_X1_mayEnter
set_option maxRecDepth 20000 in
theorem ggX1_soonestLine_X1_waitAtEnd : GoodIn wsX1_soonestLine wsX1_waitAtEnd := goodIn_r _ [25, 8, 16, 17, 18, 5, 19, 20, 21, 26, 27, 28, 29, 30, 31, 32, 44, 45, 46, 47, 48, 33, 34, 35, 36, 37, 38, 39, 40, 41, 42, 43] (by decide +kernel) (by decide +kernel)
set_option maxRecDepth 20000 in
theorem gX1_soonestLine_X1_waitAtEnd : GoodIn wsX1_soonestLine (wsV RX1 232 RX1 yX1_waitAtEnd wsX1_waitAtEnd) := goodIn_app (goodIn_of _ (by decide +kernel)) ggX1_soonestLine_X1_waitAtEnd
theorem dX1_soonestLine_0 : decode cX1_soonestLine 0 = .ok (.iconst (-1), 1) := by decide +kernel
theorem dX1_soonestLine_1 : decode cX1_soonestLine 1 = .ok (.istore_n 1, 1) := by decide +kernel
theorem dX1_soonestLine_2 : decode cX1_soonestLine 2 = .ok (.iconst 0, 1) := by decide +kernel
theorem dX1_soonestLine_3 : decode cX1_soonestLine 3 = .ok (.istore_n 2, 1) := by decide +kernel
theorem dX1_soonestLine_4 : decode cX1_soonestLine 4 = .ok (.iload_n 2, 1) := by decide +kernel
theorem dX1_soonestLine_5 : decode cX1_soonestLine 5 = .ok (.aload_n 0, 1) := by decide +kernel
theorem dX1_soonestLine_6 : decode cX1_soonestLine 6 = .ok (.getfield 37, 3) := by decide +kernel
theorem dX1_soonestLine_9 : decode cX1_soonestLine 9 = .ok (.if_icmp .ge 38, 3) := by decide +kernel
theorem dX1_soonestLine_12 : decode cX1_soonestLine 12 = .ok (.aload_n 0, 1) := by decide +kernel
theorem dX1_soonestLine_13 : decode cX1_soonestLine 13 = .ok (.iload_n 2, 1) := by decide +kernel
theorem dX1_soonestLine_14 : decode cX1_soonestLine 14 = .ok (.iconst 0, 1) := by decide +kernel
theorem dX1_soonestLine_15 : decode cX1_soonestLine 15 = .ok (.invokevirtual 152, 3) := by decide +kernel
theorem dX1_soonestLine_18 : decode cX1_soonestLine 18 = .ok (.ifCond .eq 23, 3) := by decide +kernel
theorem dX1_soonestLine_21 : decode cX1_soonestLine 21 = .ok (.iload_n 1, 1) := by decide +kernel
theorem dX1_soonestLine_22 : decode cX1_soonestLine 22 = .ok (.iconst (-1), 1) := by decide +kernel
theorem dX1_soonestLine_23 : decode cX1_soonestLine 23 = .ok (.if_icmp .eq 16, 3) := by decide +kernel
theorem dX1_soonestLine_26 : decode cX1_soonestLine 26 = .ok (.aload_n 0, 1) := by decide +kernel
theorem dX1_soonestLine_27 : decode cX1_soonestLine 27 = .ok (.iload_n 2, 1) := by decide +kernel
theorem dX1_soonestLine_28 : decode cX1_soonestLine 28 = .ok (.invokevirtual 232, 3) := by decide +kernel
theorem dX1_soonestLine_31 : decode cX1_soonestLine 31 = .ok (.aload_n 0, 1) := by decide +kernel
theorem dX1_soonestLine_32 : decode cX1_soonestLine 32 = .ok (.iload_n 1, 1) := by decide +kernel
theorem dX1_soonestLine_33 : decode cX1_soonestLine 33 = .ok (.invokevirtual 232, 3) := by decide +kernel
theorem dX1_soonestLine_36 : decode cX1_soonestLine 36 = .ok (.if_icmp .ge 5, 3) := by decide +kernel
theorem dX1_soonestLine_39 : decode cX1_soonestLine 39 = .ok (.iload_n 2, 1) := by decide +kernel
theorem dX1_soonestLine_40 : decode cX1_soonestLine 40 = .ok (.istore_n 1, 1) := by decide +kernel
theorem dX1_soonestLine_41 : decode cX1_soonestLine 41 = .ok (.iinc 2 1, 3) := by decide +kernel
theorem dX1_soonestLine_44 : decode cX1_soonestLine 44 = .ok (.goto (-40), 3) := by decide +kernel
theorem dX1_soonestLine_47 : decode cX1_soonestLine 47 = .ok (.iload_n 1, 1) := by decide +kernel
theorem dX1_soonestLine_48 : decode cX1_soonestLine 48 = .ok (.ireturn, 1) := by decide +kernel
set_option maxRecDepth 20000 in
theorem ggX1_waitAtEnd_X1_lineOf : GoodIn wsX1_waitAtEnd wsX1_lineOf := goodIn_r _ [6, 7, 8, 21, 22, 23, 24, 25, 26, 27, 28, 29, 30, 31] (by decide +kernel) (by decide +kernel)
set_option maxRecDepth 20000 in
theorem gX1_waitAtEnd_X1_lineOf : GoodIn wsX1_waitAtEnd (wsV RX1 65 RX1 yX1_lineOf wsX1_lineOf) := goodIn_app (goodIn_of _ (by decide +kernel)) ggX1_waitAtEnd_X1_lineOf
set_option maxRecDepth 20000 in
theorem ggX1_waitAtEnd_X3_waitAt : GoodIn wsX1_waitAtEnd wsX3_waitAt := goodIn_r _ [13, 14, 15, 16, 17, 18, 19, 20] (by decide +kernel) (by decide +kernel)
set_option maxRecDepth 20000 in
theorem gX1_waitAtEnd_X3_waitAt : GoodIn wsX1_waitAtEnd (wsV RX1 220 RX3 yX3_waitAt wsX3_waitAt) := goodIn_app (goodIn_of _ (by decide +kernel)) ggX1_waitAtEnd_X3_waitAt
theorem dX1_waitAtEnd_0 : decode cX1_waitAtEnd 0 = .ok (.aload_n 0, 1) := by decide +kernel
theorem dX1_waitAtEnd_1 : decode cX1_waitAtEnd 1 = .ok (.iload_n 1, 1) := by decide +kernel
theorem dX1_waitAtEnd_2 : decode cX1_waitAtEnd 2 = .ok (.invokevirtual 65, 3) := by decide +kernel
theorem dX1_waitAtEnd_5 : decode cX1_waitAtEnd 5 = .ok (.aload_n 0, 1) := by decide +kernel
theorem dX1_waitAtEnd_6 : decode cX1_waitAtEnd 6 = .ok (.iload_n 1, 1) := by decide +kernel
theorem dX1_waitAtEnd_7 : decode cX1_waitAtEnd 7 = .ok (.invokevirtual 65, 3) := by decide +kernel
theorem dX1_waitAtEnd_10 : decode cX1_waitAtEnd 10 = .ok (.getfield 106, 3) := by decide +kernel
theorem dX1_waitAtEnd_13 : decode cX1_waitAtEnd 13 = .ok (.invokevirtual 220, 3) := by decide +kernel
theorem dX1_waitAtEnd_16 : decode cX1_waitAtEnd 16 = .ok (.ireturn, 1) := by decide +kernel
set_option maxRecDepth 20000 in
theorem ggX1_longestWaiting_X1_stands : GoodIn wsX1_longestWaiting wsX1_stands := goodIn_r _ [6, 7, 8, 9, 10, 5, 11, 1, 12, 13, 14, 15, 16, 17, 62, 63, 64, 65, 66, 67, 68, 69, 70, 51, 52, 53, 54, 55, 56, 57, 58, 59, 60, 61] (by decide +kernel) (by decide +kernel)
set_option maxRecDepth 20000 in
theorem gX1_longestWaiting_X1_stands : GoodIn wsX1_longestWaiting (wsV RX1 163 RX1 yX1_stands wsX1_stands) := goodIn_app (goodIn_of _ (by decide +kernel)) ggX1_longestWaiting_X1_stands
set_option maxRecDepth 20000 in
theorem ggX1_longestWaiting_X1_standingAtEnd : GoodIn wsX1_longestWaiting wsX1_standingAtEnd := goodIn_r _ [21, 22, 12, 13, 14, 5, 15, 16, 17, 23, 24, 25, 26, 27, 28, 29, 30, 31, 32, 33, 34, 35, 36, 37, 38, 39, 40, 41, 42, 43, 44, 45, 46, 47, 48, 49, 50, 62, 63, 64, 65, 66, 67, 68, 69, 70, 51, 52, 53, 54, 55, 56, 57, 58, 59, 60, 61, 71, 72, 73, 74, 75] (by decide +kernel) (by decide +kernel)
set_option maxRecDepth 20000 in
theorem gX1_longestWaiting_X1_standingAtEnd : GoodIn wsX1_longestWaiting (wsV RX1 235 RX1 yX1_standingAtEnd wsX1_standingAtEnd) := goodIn_app (goodIn_of _ (by decide +kernel)) ggX1_longestWaiting_X1_standingAtEnd
theorem dX1_longestWaiting_0 : decode cX1_longestWaiting 0 = .ok (.iconst (-1), 1) := by decide +kernel
theorem dX1_longestWaiting_1 : decode cX1_longestWaiting 1 = .ok (.istore_n 1, 1) := by decide +kernel
theorem dX1_longestWaiting_2 : decode cX1_longestWaiting 2 = .ok (.iconst 0, 1) := by decide +kernel
theorem dX1_longestWaiting_3 : decode cX1_longestWaiting 3 = .ok (.istore_n 2, 1) := by decide +kernel
theorem dX1_longestWaiting_4 : decode cX1_longestWaiting 4 = .ok (.iload_n 2, 1) := by decide +kernel
theorem dX1_longestWaiting_5 : decode cX1_longestWaiting 5 = .ok (.aload_n 0, 1) := by decide +kernel
theorem dX1_longestWaiting_6 : decode cX1_longestWaiting 6 = .ok (.getfield 41, 3) := by decide +kernel
theorem dX1_longestWaiting_9 : decode cX1_longestWaiting 9 = .ok (.if_icmp .ge 37, 3) := by decide +kernel
theorem dX1_longestWaiting_12 : decode cX1_longestWaiting 12 = .ok (.aload_n 0, 1) := by decide +kernel
theorem dX1_longestWaiting_13 : decode cX1_longestWaiting 13 = .ok (.iload_n 2, 1) := by decide +kernel
theorem dX1_longestWaiting_14 : decode cX1_longestWaiting 14 = .ok (.invokevirtual 163, 3) := by decide +kernel
theorem dX1_longestWaiting_17 : decode cX1_longestWaiting 17 = .ok (.ifCond .eq 23, 3) := by decide +kernel
theorem dX1_longestWaiting_20 : decode cX1_longestWaiting 20 = .ok (.iload_n 1, 1) := by decide +kernel
theorem dX1_longestWaiting_21 : decode cX1_longestWaiting 21 = .ok (.iconst (-1), 1) := by decide +kernel
theorem dX1_longestWaiting_22 : decode cX1_longestWaiting 22 = .ok (.if_icmp .eq 16, 3) := by decide +kernel
theorem dX1_longestWaiting_25 : decode cX1_longestWaiting 25 = .ok (.aload_n 0, 1) := by decide +kernel
theorem dX1_longestWaiting_26 : decode cX1_longestWaiting 26 = .ok (.iload_n 2, 1) := by decide +kernel
theorem dX1_longestWaiting_27 : decode cX1_longestWaiting 27 = .ok (.invokevirtual 235, 3) := by decide +kernel
theorem dX1_longestWaiting_30 : decode cX1_longestWaiting 30 = .ok (.aload_n 0, 1) := by decide +kernel
theorem dX1_longestWaiting_31 : decode cX1_longestWaiting 31 = .ok (.iload_n 1, 1) := by decide +kernel
theorem dX1_longestWaiting_32 : decode cX1_longestWaiting 32 = .ok (.invokevirtual 235, 3) := by decide +kernel
theorem dX1_longestWaiting_35 : decode cX1_longestWaiting 35 = .ok (.if_icmp .le 5, 3) := by decide +kernel
theorem dX1_longestWaiting_38 : decode cX1_longestWaiting 38 = .ok (.iload_n 2, 1) := by decide +kernel
theorem dX1_longestWaiting_39 : decode cX1_longestWaiting 39 = .ok (.istore_n 1, 1) := by decide +kernel
theorem dX1_longestWaiting_40 : decode cX1_longestWaiting 40 = .ok (.iinc 2 1, 3) := by decide +kernel
theorem dX1_longestWaiting_43 : decode cX1_longestWaiting 43 = .ok (.goto (-39), 3) := by decide +kernel
theorem dX1_longestWaiting_46 : decode cX1_longestWaiting 46 = .ok (.iload_n 1, 1) := by decide +kernel
theorem dX1_longestWaiting_47 : decode cX1_longestWaiting 47 = .ok (.ireturn, 1) := by decide +kernel
set_option maxRecDepth 20000 in
theorem ggX1_standingAtEnd_X1_personOf : GoodIn wsX1_standingAtEnd wsX1_personOf := goodIn_r _ [6, 7, 8, 46, 47, 48, 49, 50, 51, 52, 53, 54, 55, 56] (by decide +kernel) (by decide +kernel)
set_option maxRecDepth 20000 in
theorem gX1_standingAtEnd_X1_personOf : GoodIn wsX1_standingAtEnd (wsV RX1 73 RX1 yX1_personOf wsX1_personOf) := goodIn_app (goodIn_of _ (by decide +kernel)) ggX1_standingAtEnd_X1_personOf
set_option maxRecDepth 20000 in
theorem ggX1_standingAtEnd_X1_waitOf : GoodIn wsX1_standingAtEnd wsX1_waitOf := goodIn_r _ [12, 13, 2, 3, 4, 5, 6, 7, 8, 14, 15, 16, 17, 18, 19, 20, 21, 22, 23, 24, 25, 26, 27, 28, 29, 30, 31, 32, 33, 34, 35, 36, 37, 38, 39, 40, 41, 42, 43, 44, 45, 46, 47, 48, 49, 50, 51, 52, 53, 54, 55, 56, 57, 58, 59, 60, 61] (by decide +kernel) (by decide +kernel)
set_option maxRecDepth 20000 in
theorem gX1_standingAtEnd_X1_waitOf : GoodIn wsX1_standingAtEnd (wsV RX1 223 RX1 yX1_waitOf wsX1_waitOf) := goodIn_app (goodIn_of _ (by decide +kernel)) ggX1_standingAtEnd_X1_waitOf
theorem dX1_standingAtEnd_0 : decode cX1_standingAtEnd 0 = .ok (.aload_n 0, 1) := by decide +kernel
theorem dX1_standingAtEnd_1 : decode cX1_standingAtEnd 1 = .ok (.iload_n 1, 1) := by decide +kernel
theorem dX1_standingAtEnd_2 : decode cX1_standingAtEnd 2 = .ok (.invokevirtual 73, 3) := by decide +kernel
theorem dX1_standingAtEnd_5 : decode cX1_standingAtEnd 5 = .ok (.getfield 122, 3) := by decide +kernel
theorem dX1_standingAtEnd_8 : decode cX1_standingAtEnd 8 = .ok (.aload_n 0, 1) := by decide +kernel
theorem dX1_standingAtEnd_9 : decode cX1_standingAtEnd 9 = .ok (.iload_n 1, 1) := by decide +kernel
theorem dX1_standingAtEnd_10 : decode cX1_standingAtEnd 10 = .ok (.invokevirtual 223, 3) := by decide +kernel
theorem dX1_standingAtEnd_13 : decode cX1_standingAtEnd 13 = .ok (.iadd, 1) := by decide +kernel
theorem dX1_standingAtEnd_14 : decode cX1_standingAtEnd 14 = .ok (.ireturn, 1) := by decide +kernel
set_option maxRecDepth 20000 in
theorem ggX1_savedByUnion_X1_lineOf : GoodIn wsX1_savedByUnion wsX1_lineOf := goodIn_r _ [6, 7, 8, 21, 22, 23, 24, 25, 26, 27, 28, 29, 30, 31] (by decide +kernel) (by decide +kernel)
set_option maxRecDepth 20000 in
theorem gX1_savedByUnion_X1_lineOf : GoodIn wsX1_savedByUnion (wsV RX1 65 RX1 yX1_lineOf wsX1_lineOf) := goodIn_app (goodIn_of _ (by decide +kernel)) ggX1_savedByUnion_X1_lineOf
set_option maxRecDepth 20000 in
theorem ggX1_savedByUnion_X3_waitOfAll : GoodIn wsX1_savedByUnion wsX3_waitOfAll := goodIn_r _ [13, 14, 15, 16, 17, 18, 19, 20] (by decide +kernel) (by decide +kernel)
set_option maxRecDepth 20000 in
theorem gX1_savedByUnion_X3_waitOfAll : GoodIn wsX1_savedByUnion (wsV RX1 238 RX3 yX3_waitOfAll wsX3_waitOfAll) := goodIn_app (goodIn_of _ (by decide +kernel)) ggX1_savedByUnion_X3_waitOfAll
theorem dX1_savedByUnion_0 : decode cX1_savedByUnion 0 = .ok (.aload_n 0, 1) := by decide +kernel
theorem dX1_savedByUnion_1 : decode cX1_savedByUnion 1 = .ok (.iload_n 1, 1) := by decide +kernel
theorem dX1_savedByUnion_2 : decode cX1_savedByUnion 2 = .ok (.invokevirtual 65, 3) := by decide +kernel
theorem dX1_savedByUnion_5 : decode cX1_savedByUnion 5 = .ok (.astore_n 3, 1) := by decide +kernel
theorem dX1_savedByUnion_6 : decode cX1_savedByUnion 6 = .ok (.aload_n 0, 1) := by decide +kernel
theorem dX1_savedByUnion_7 : decode cX1_savedByUnion 7 = .ok (.iload_n 2, 1) := by decide +kernel
theorem dX1_savedByUnion_8 : decode cX1_savedByUnion 8 = .ok (.invokevirtual 65, 3) := by decide +kernel
theorem dX1_savedByUnion_11 : decode cX1_savedByUnion 11 = .ok (.astore 4, 2) := by decide +kernel
theorem dX1_savedByUnion_13 : decode cX1_savedByUnion 13 = .ok (.aload_n 3, 1) := by decide +kernel
theorem dX1_savedByUnion_14 : decode cX1_savedByUnion 14 = .ok (.aload_n 3, 1) := by decide +kernel
theorem dX1_savedByUnion_15 : decode cX1_savedByUnion 15 = .ok (.getfield 106, 3) := by decide +kernel
theorem dX1_savedByUnion_18 : decode cX1_savedByUnion 18 = .ok (.invokevirtual 238, 3) := by decide +kernel
theorem dX1_savedByUnion_21 : decode cX1_savedByUnion 21 = .ok (.aload 4, 2) := by decide +kernel
theorem dX1_savedByUnion_23 : decode cX1_savedByUnion 23 = .ok (.aload 4, 2) := by decide +kernel
theorem dX1_savedByUnion_25 : decode cX1_savedByUnion 25 = .ok (.getfield 106, 3) := by decide +kernel
theorem dX1_savedByUnion_28 : decode cX1_savedByUnion 28 = .ok (.invokevirtual 238, 3) := by decide +kernel
theorem dX1_savedByUnion_31 : decode cX1_savedByUnion 31 = .ok (.iadd, 1) := by decide +kernel
theorem dX1_savedByUnion_32 : decode cX1_savedByUnion 32 = .ok (.aload_n 3, 1) := by decide +kernel
theorem dX1_savedByUnion_33 : decode cX1_savedByUnion 33 = .ok (.aload_n 3, 1) := by decide +kernel
theorem dX1_savedByUnion_34 : decode cX1_savedByUnion 34 = .ok (.getfield 106, 3) := by decide +kernel
theorem dX1_savedByUnion_37 : decode cX1_savedByUnion 37 = .ok (.aload 4, 2) := by decide +kernel
theorem dX1_savedByUnion_39 : decode cX1_savedByUnion 39 = .ok (.getfield 106, 3) := by decide +kernel
theorem dX1_savedByUnion_42 : decode cX1_savedByUnion 42 = .ok (.iadd, 1) := by decide +kernel
theorem dX1_savedByUnion_43 : decode cX1_savedByUnion 43 = .ok (.invokevirtual 238, 3) := by decide +kernel
theorem dX1_savedByUnion_46 : decode cX1_savedByUnion 46 = .ok (.isub, 1) := by decide +kernel
theorem dX1_savedByUnion_47 : decode cX1_savedByUnion 47 = .ok (.ireturn, 1) := by decide +kernel
set_option maxRecDepth 20000 in
theorem ggX1_obeys_X1_enter : GoodIn wsX1_obeys wsX1_enter := goodIn_r _ [7, 8, 9, 10, 11, 12, 6, 13, 14, 15, 16, 17, 18, 19, 20, 21, 22, 23, 24, 25, 26, 27, 28, 29, 30, 31, 32, 33, 34, 35, 36, 37, 38, 39, 40, 41, 42, 43, 44, 45, 46, 47, 48, 49, 50, 51, 52, 53, 54, 55, 182, 183, 184, 185, 186, 187, 188, 189, 190, 191, 192, 193, 194, 195, 196, 197, 173, 174, 175, 176, 177, 178, 179, 180, 181] (by decide +kernel) (by decide +kernel)
set_option maxRecDepth 20000 in
theorem gX1_obeys_X1_enter : GoodIn wsX1_obeys (wsV RX1 241 RX1 yX1_enter wsX1_enter) := goodIn_app (goodIn_of _ (by decide +kernel)) ggX1_obeys_X1_enter
set_option maxRecDepth 20000 in
theorem ggX1_obeys_X1_leave : GoodIn wsX1_obeys wsX1_leave := goodIn_r _ [59, 60, 61, 62, 63, 64, 6, 65, 1, 66, 67, 68, 69, 8, 29, 30, 31, 32, 33, 34, 23, 24, 25, 26, 27, 28, 70, 71, 72, 73, 74, 75, 76, 52, 77, 54, 55, 78, 79, 80, 81, 82, 83, 84, 85, 86, 87, 88, 38, 89, 41, 42, 173, 174, 175, 176, 177, 178, 179, 180, 181, 182, 183, 184, 185, 186, 187, 188, 189, 190, 191, 192, 193, 194, 195, 196, 197] (by decide +kernel) (by decide +kernel)
set_option maxRecDepth 20000 in
theorem gX1_obeys_X1_leave : GoodIn wsX1_obeys (wsV RX1 243 RX1 yX1_leave wsX1_leave) := goodIn_app (goodIn_of _ (by decide +kernel)) ggX1_obeys_X1_leave
set_option maxRecDepth 20000 in
theorem ggX1_obeys_X1_trade : GoodIn wsX1_obeys wsX1_trade := goodIn_r _ [93, 60, 94, 95, 96, 97, 98, 99, 6, 100, 61, 62, 63, 64, 65, 1, 66, 67, 68, 69, 8, 29, 30, 31, 32, 33, 34, 70, 71, 72, 73, 23, 24, 25, 26, 27, 28, 74, 75, 76, 52, 77, 54, 55, 101, 102, 103, 104, 105, 106, 107, 108, 109, 82, 83, 84, 85, 173, 174, 175, 176, 177, 178, 179, 180, 181, 182, 183, 184, 185, 186, 187, 188, 189, 190, 191, 192, 193, 194, 195, 196, 197] (by decide +kernel) (by decide +kernel)
set_option maxRecDepth 20000 in
theorem gX1_obeys_X1_trade : GoodIn wsX1_obeys (wsV RX1 246 RX1 yX1_trade wsX1_trade) := goodIn_app (goodIn_of _ (by decide +kernel)) ggX1_obeys_X1_trade
set_option maxRecDepth 20000 in
theorem ggX1_obeys_X1_pass : GoodIn wsX1_obeys wsX1_pass := goodIn_r _ [113, 60, 105, 114, 115, 116, 117, 95, 9, 118, 119, 120, 121, 122, 6, 123, 124, 62, 63, 64, 65, 1, 66, 67, 68, 69, 8, 29, 30, 31, 32, 33, 34, 70, 71, 72, 73, 23, 24, 25, 26, 27, 28, 74, 75, 76, 52, 77, 54, 55, 125, 126, 127, 128, 82, 83, 84, 85, 129, 130, 131, 132, 94, 133, 134, 135, 136, 137, 2, 106, 107, 108, 109, 173, 174, 175, 176, 177, 178, 179, 180, 181, 182, 183, 184, 185, 186, 187, 188, 189, 190, 191, 192, 193, 194, 195, 196, 197] (by decide +kernel) (by decide +kernel)
set_option maxRecDepth 20000 in
theorem gX1_obeys_X1_pass : GoodIn wsX1_obeys (wsV RX1 249 RX1 yX1_pass wsX1_pass) := goodIn_app (goodIn_of _ (by decide +kernel)) ggX1_obeys_X1_pass
set_option maxRecDepth 20000 in
theorem ggX1_obeys_X1_unite : GoodIn wsX1_obeys wsX1_unite := goodIn_r _ [141, 14, 60, 142, 143, 144, 145, 6, 146, 15, 16, 17, 18, 19, 23, 24, 25, 26, 27, 28, 125, 126, 127, 52, 128, 55, 82, 83, 84, 85, 54, 29, 30, 31, 32, 33, 34, 49, 50, 51, 53, 147, 148, 149, 150, 151, 152, 153, 154, 61, 106, 107, 108, 109, 193, 194, 195, 196, 197, 173, 174, 175, 176, 177, 178, 179, 180, 181, 182, 183, 184, 185, 186, 187, 188, 189, 190, 191, 192] (by decide +kernel) (by decide +kernel)
set_option maxRecDepth 20000 in
theorem gX1_obeys_X1_unite : GoodIn wsX1_obeys (wsV RX1 252 RX1 yX1_unite wsX1_unite) := goodIn_app (goodIn_of _ (by decide +kernel)) ggX1_obeys_X1_unite
set_option maxRecDepth 20000 in
theorem ggX1_obeys_X1_letPass : GoodIn wsX1_obeys wsX1_letPass := goodIn_r _ [158, 9, 19, 159, 160, 161, 6, 162, 8, 61, 62, 63, 64, 65, 1, 66, 67, 68, 69, 29, 30, 31, 32, 33, 34, 23, 24, 25, 26, 27, 28, 163, 164, 165, 166, 14, 142, 167, 168, 125, 126, 127, 52, 128, 55, 82, 83, 84, 85, 54, 86, 87, 88, 38, 89, 41, 42, 78, 79, 80, 81, 169, 170, 171, 172, 105, 133, 134, 135, 136, 94, 137, 2, 182, 183, 184, 185, 186, 187, 188, 189, 190, 191, 192, 173, 174, 175, 176, 177, 178, 179, 180, 181, 193, 194, 195, 196, 197] (by decide +kernel) (by decide +kernel)
set_option maxRecDepth 20000 in
theorem gX1_obeys_X1_letPass : GoodIn wsX1_obeys (wsV RX1 255 RX1 yX1_letPass wsX1_letPass) := goodIn_app (goodIn_of _ (by decide +kernel)) ggX1_obeys_X1_letPass
set_option maxRecDepth 20000 in
theorem ggX1_obeys_X1_isPerson : GoodIn wsX1_obeys wsX1_isPerson := goodIn_r _ [69, 8, 182, 183, 184, 185, 186, 187, 188, 189, 190, 191, 192] (by decide +kernel) (by decide +kernel)
set_option maxRecDepth 20000 in
theorem gX1_obeys_X1_isPerson : GoodIn wsX1_obeys (wsV RX1 80 RX1 yX1_isPerson wsX1_isPerson) := goodIn_app (goodIn_of _ (by decide +kernel)) ggX1_obeys_X1_isPerson
set_option maxRecDepth 20000 in
theorem ggX1_obeys_X1_personOf : GoodIn wsX1_obeys wsX1_personOf := goodIn_r _ [32, 33, 34, 182, 183, 184, 185, 186, 187, 188, 189, 190, 191, 192] (by decide +kernel) (by decide +kernel)
set_option maxRecDepth 20000 in
theorem gX1_obeys_X1_personOf : GoodIn wsX1_obeys (wsV RX1 73 RX1 yX1_personOf wsX1_personOf) := goodIn_app (goodIn_of _ (by decide +kernel)) ggX1_obeys_X1_personOf
set_option maxRecDepth 20000 in
theorem ggX1_obeys_X1_stands : GoodIn wsX1_obeys wsX1_stands := goodIn_r _ [65, 1, 66, 67, 68, 6, 69, 8, 29, 30, 31, 32, 33, 34, 173, 174, 175, 176, 177, 178, 179, 180, 181, 182, 183, 184, 185, 186, 187, 188, 189, 190, 191, 192] (by decide +kernel) (by decide +kernel)
set_option maxRecDepth 20000 in
theorem gX1_obeys_X1_stands : GoodIn wsX1_obeys (wsV RX1 163 RX1 yX1_stands wsX1_stands) := goodIn_app (goodIn_of _ (by decide +kernel)) ggX1_obeys_X1_stands
set_option maxRecDepth 20000 in
theorem ggX1_obeys_X1_placeOf : GoodIn wsX1_obeys wsX1_placeOf := goodIn_r _ [73, 60, 29, 30, 31, 6, 32, 33, 34, 23, 24, 25, 26, 27, 28, 74, 75, 76, 52, 77, 54, 55, 173, 174, 175, 176, 177, 178, 179, 180, 181, 182, 183, 184, 185, 186, 187, 188, 189, 190, 191, 192, 193, 194, 195, 196, 197] (by decide +kernel) (by decide +kernel)
set_option maxRecDepth 20000 in
theorem gX1_obeys_X1_placeOf : GoodIn wsX1_obeys (wsV RX1 128 RX1 yX1_placeOf wsX1_placeOf) := goodIn_app (goodIn_of _ (by decide +kernel)) ggX1_obeys_X1_placeOf
theorem dX1_obeys_0 : decode cX1_obeys 0 = .ok (.iload_n 1, 1) := by decide +kernel
theorem dX1_obeys_1 : decode cX1_obeys 1 = .ok (.sipush 1000, 3) := by decide +kernel
theorem dX1_obeys_4 : decode cX1_obeys 4 = .ok (.idiv, 1) := by decide +kernel
theorem dX1_obeys_5 : decode cX1_obeys 5 = .ok (.bipush 10, 2) := by decide +kernel
theorem dX1_obeys_7 : decode cX1_obeys 7 = .ok (.irem, 1) := by decide +kernel
theorem dX1_obeys_8 : decode cX1_obeys 8 = .ok (.istore_n 2, 1) := by decide +kernel
theorem dX1_obeys_9 : decode cX1_obeys 9 = .ok (.iload_n 1, 1) := by decide +kernel
theorem dX1_obeys_10 : decode cX1_obeys 10 = .ok (.bipush 100, 2) := by decide +kernel
theorem dX1_obeys_12 : decode cX1_obeys 12 = .ok (.idiv, 1) := by decide +kernel
theorem dX1_obeys_13 : decode cX1_obeys 13 = .ok (.bipush 10, 2) := by decide +kernel
theorem dX1_obeys_15 : decode cX1_obeys 15 = .ok (.irem, 1) := by decide +kernel
theorem dX1_obeys_16 : decode cX1_obeys 16 = .ok (.istore_n 3, 1) := by decide +kernel
theorem dX1_obeys_17 : decode cX1_obeys 17 = .ok (.iload_n 1, 1) := by decide +kernel
theorem dX1_obeys_18 : decode cX1_obeys 18 = .ok (.bipush 100, 2) := by decide +kernel
theorem dX1_obeys_20 : decode cX1_obeys 20 = .ok (.idiv, 1) := by decide +kernel
theorem dX1_obeys_21 : decode cX1_obeys 21 = .ok (.bipush 100, 2) := by decide +kernel
theorem dX1_obeys_23 : decode cX1_obeys 23 = .ok (.irem, 1) := by decide +kernel
theorem dX1_obeys_24 : decode cX1_obeys 24 = .ok (.istore 4, 2) := by decide +kernel
theorem dX1_obeys_26 : decode cX1_obeys 26 = .ok (.iload_n 1, 1) := by decide +kernel
theorem dX1_obeys_27 : decode cX1_obeys 27 = .ok (.bipush 100, 2) := by decide +kernel
theorem dX1_obeys_29 : decode cX1_obeys 29 = .ok (.irem, 1) := by decide +kernel
theorem dX1_obeys_30 : decode cX1_obeys 30 = .ok (.istore 5, 2) := by decide +kernel
theorem dX1_obeys_32 : decode cX1_obeys 32 = .ok (.iload_n 1, 1) := by decide +kernel
theorem dX1_obeys_33 : decode cX1_obeys 33 = .ok (.sipush 10000, 3) := by decide +kernel
theorem dX1_obeys_36 : decode cX1_obeys 36 = .ok (.idiv, 1) := by decide +kernel
theorem dX1_obeys_37 : decode cX1_obeys 37 = .ok (.tableswitch 268 1 9 #[51, 72, 93, 111, 132, 153, 187, 220, 246], 51) := by decide +kernel
theorem dX1_obeys_88 : decode cX1_obeys 88 = .ok (.iload 5, 2) := by decide +kernel
theorem dX1_obeys_90 : decode cX1_obeys 90 = .ok (.ifCond .ne 17, 3) := by decide +kernel
theorem dX1_obeys_93 : decode cX1_obeys 93 = .ok (.aload_n 0, 1) := by decide +kernel
theorem dX1_obeys_94 : decode cX1_obeys 94 = .ok (.iload_n 2, 1) := by decide +kernel
theorem dX1_obeys_95 : decode cX1_obeys 95 = .ok (.iload_n 3, 1) := by decide +kernel
theorem dX1_obeys_96 : decode cX1_obeys 96 = .ok (.invokevirtual 241, 3) := by decide +kernel
theorem dX1_obeys_99 : decode cX1_obeys 99 = .ok (.iconst (-1), 1) := by decide +kernel
theorem dX1_obeys_100 : decode cX1_obeys 100 = .ok (.if_icmp .eq 7, 3) := by decide +kernel
theorem dX1_obeys_103 : decode cX1_obeys 103 = .ok (.iconst 1, 1) := by decide +kernel
theorem dX1_obeys_104 : decode cX1_obeys 104 = .ok (.goto 4, 3) := by decide +kernel
theorem dX1_obeys_107 : decode cX1_obeys 107 = .ok (.iconst 0, 1) := by decide +kernel
theorem dX1_obeys_108 : decode cX1_obeys 108 = .ok (.ireturn, 1) := by decide +kernel
theorem dX1_obeys_109 : decode cX1_obeys 109 = .ok (.iload 4, 2) := by decide +kernel
theorem dX1_obeys_111 : decode cX1_obeys 111 = .ok (.ifCond .ne 17, 3) := by decide +kernel
theorem dX1_obeys_114 : decode cX1_obeys 114 = .ok (.aload_n 0, 1) := by decide +kernel
theorem dX1_obeys_115 : decode cX1_obeys 115 = .ok (.iload 5, 2) := by decide +kernel
theorem dX1_obeys_117 : decode cX1_obeys 117 = .ok (.invokevirtual 243, 3) := by decide +kernel
theorem dX1_obeys_120 : decode cX1_obeys 120 = .ok (.iconst (-1), 1) := by decide +kernel
theorem dX1_obeys_121 : decode cX1_obeys 121 = .ok (.if_icmp .eq 7, 3) := by decide +kernel
theorem dX1_obeys_124 : decode cX1_obeys 124 = .ok (.iconst 1, 1) := by decide +kernel
theorem dX1_obeys_125 : decode cX1_obeys 125 = .ok (.goto 4, 3) := by decide +kernel
theorem dX1_obeys_128 : decode cX1_obeys 128 = .ok (.iconst 0, 1) := by decide +kernel
theorem dX1_obeys_129 : decode cX1_obeys 129 = .ok (.ireturn, 1) := by decide +kernel
theorem dX1_obeys_130 : decode cX1_obeys 130 = .ok (.aload_n 0, 1) := by decide +kernel
theorem dX1_obeys_131 : decode cX1_obeys 131 = .ok (.iload 4, 2) := by decide +kernel
theorem dX1_obeys_133 : decode cX1_obeys 133 = .ok (.iload 5, 2) := by decide +kernel
theorem dX1_obeys_135 : decode cX1_obeys 135 = .ok (.invokevirtual 246, 3) := by decide +kernel
theorem dX1_obeys_138 : decode cX1_obeys 138 = .ok (.iconst (-1), 1) := by decide +kernel
theorem dX1_obeys_139 : decode cX1_obeys 139 = .ok (.if_icmp .eq 7, 3) := by decide +kernel
theorem dX1_obeys_142 : decode cX1_obeys 142 = .ok (.iconst 1, 1) := by decide +kernel
theorem dX1_obeys_143 : decode cX1_obeys 143 = .ok (.goto 4, 3) := by decide +kernel
theorem dX1_obeys_146 : decode cX1_obeys 146 = .ok (.iconst 0, 1) := by decide +kernel
theorem dX1_obeys_147 : decode cX1_obeys 147 = .ok (.ireturn, 1) := by decide +kernel
theorem dX1_obeys_148 : decode cX1_obeys 148 = .ok (.iload 4, 2) := by decide +kernel
theorem dX1_obeys_150 : decode cX1_obeys 150 = .ok (.ifCond .ne 17, 3) := by decide +kernel
theorem dX1_obeys_153 : decode cX1_obeys 153 = .ok (.aload_n 0, 1) := by decide +kernel
theorem dX1_obeys_154 : decode cX1_obeys 154 = .ok (.iload 5, 2) := by decide +kernel
theorem dX1_obeys_156 : decode cX1_obeys 156 = .ok (.invokevirtual 249, 3) := by decide +kernel
theorem dX1_obeys_159 : decode cX1_obeys 159 = .ok (.iconst (-1), 1) := by decide +kernel
theorem dX1_obeys_160 : decode cX1_obeys 160 = .ok (.if_icmp .eq 7, 3) := by decide +kernel
theorem dX1_obeys_163 : decode cX1_obeys 163 = .ok (.iconst 1, 1) := by decide +kernel
theorem dX1_obeys_164 : decode cX1_obeys 164 = .ok (.goto 4, 3) := by decide +kernel
theorem dX1_obeys_167 : decode cX1_obeys 167 = .ok (.iconst 0, 1) := by decide +kernel
theorem dX1_obeys_168 : decode cX1_obeys 168 = .ok (.ireturn, 1) := by decide +kernel
theorem dX1_obeys_169 : decode cX1_obeys 169 = .ok (.iload 5, 2) := by decide +kernel
theorem dX1_obeys_171 : decode cX1_obeys 171 = .ok (.ifCond .ne 17, 3) := by decide +kernel
theorem dX1_obeys_174 : decode cX1_obeys 174 = .ok (.aload_n 0, 1) := by decide +kernel
theorem dX1_obeys_175 : decode cX1_obeys 175 = .ok (.iload_n 2, 1) := by decide +kernel
theorem dX1_obeys_176 : decode cX1_obeys 176 = .ok (.iload_n 3, 1) := by decide +kernel
theorem dX1_obeys_177 : decode cX1_obeys 177 = .ok (.invokevirtual 252, 3) := by decide +kernel
theorem dX1_obeys_180 : decode cX1_obeys 180 = .ok (.iconst (-1), 1) := by decide +kernel
theorem dX1_obeys_181 : decode cX1_obeys 181 = .ok (.if_icmp .eq 7, 3) := by decide +kernel
theorem dX1_obeys_184 : decode cX1_obeys 184 = .ok (.iconst 1, 1) := by decide +kernel
theorem dX1_obeys_185 : decode cX1_obeys 185 = .ok (.goto 4, 3) := by decide +kernel
theorem dX1_obeys_188 : decode cX1_obeys 188 = .ok (.iconst 0, 1) := by decide +kernel
theorem dX1_obeys_189 : decode cX1_obeys 189 = .ok (.ireturn, 1) := by decide +kernel
theorem dX1_obeys_190 : decode cX1_obeys 190 = .ok (.iload 4, 2) := by decide +kernel
theorem dX1_obeys_192 : decode cX1_obeys 192 = .ok (.ifCond .ne 30, 3) := by decide +kernel
theorem dX1_obeys_195 : decode cX1_obeys 195 = .ok (.iload 5, 2) := by decide +kernel
theorem dX1_obeys_197 : decode cX1_obeys 197 = .ok (.iconst 1, 1) := by decide +kernel
theorem dX1_obeys_198 : decode cX1_obeys 198 = .ok (.if_icmp .lt 24, 3) := by decide +kernel
theorem dX1_obeys_201 : decode cX1_obeys 201 = .ok (.iload 5, 2) := by decide +kernel
theorem dX1_obeys_203 : decode cX1_obeys 203 = .ok (.bipush 60, 2) := by decide +kernel
theorem dX1_obeys_205 : decode cX1_obeys 205 = .ok (.if_icmp .gt 17, 3) := by decide +kernel
theorem dX1_obeys_208 : decode cX1_obeys 208 = .ok (.aload_n 0, 1) := by decide +kernel
theorem dX1_obeys_209 : decode cX1_obeys 209 = .ok (.iload 5, 2) := by decide +kernel
theorem dX1_obeys_211 : decode cX1_obeys 211 = .ok (.invokevirtual 255, 3) := by decide +kernel
theorem dX1_obeys_214 : decode cX1_obeys 214 = .ok (.iconst (-1), 1) := by decide +kernel
theorem dX1_obeys_215 : decode cX1_obeys 215 = .ok (.if_icmp .eq 7, 3) := by decide +kernel
theorem dX1_obeys_218 : decode cX1_obeys 218 = .ok (.iconst 1, 1) := by decide +kernel
theorem dX1_obeys_219 : decode cX1_obeys 219 = .ok (.goto 4, 3) := by decide +kernel
theorem dX1_obeys_222 : decode cX1_obeys 222 = .ok (.iconst 0, 1) := by decide +kernel
theorem dX1_obeys_223 : decode cX1_obeys 223 = .ok (.ireturn, 1) := by decide +kernel
theorem dX1_obeys_224 : decode cX1_obeys 224 = .ok (.iload 4, 2) := by decide +kernel
theorem dX1_obeys_226 : decode cX1_obeys 226 = .ok (.ifCond .ne 29, 3) := by decide +kernel
theorem dX1_obeys_229 : decode cX1_obeys 229 = .ok (.aload_n 0, 1) := by decide +kernel
theorem dX1_obeys_230 : decode cX1_obeys 230 = .ok (.iload 5, 2) := by decide +kernel
theorem dX1_obeys_232 : decode cX1_obeys 232 = .ok (.invokevirtual 80, 3) := by decide +kernel
theorem dX1_obeys_235 : decode cX1_obeys 235 = .ok (.ifCond .eq 20, 3) := by decide +kernel
theorem dX1_obeys_238 : decode cX1_obeys 238 = .ok (.aload_n 0, 1) := by decide +kernel
theorem dX1_obeys_239 : decode cX1_obeys 239 = .ok (.iload 5, 2) := by decide +kernel
theorem dX1_obeys_241 : decode cX1_obeys 241 = .ok (.invokevirtual 73, 3) := by decide +kernel
theorem dX1_obeys_244 : decode cX1_obeys 244 = .ok (.getfield 84, 3) := by decide +kernel
theorem dX1_obeys_247 : decode cX1_obeys 247 = .ok (.iconst 1, 1) := by decide +kernel
theorem dX1_obeys_248 : decode cX1_obeys 248 = .ok (.if_icmp .ne 7, 3) := by decide +kernel
theorem dX1_obeys_251 : decode cX1_obeys 251 = .ok (.iconst 1, 1) := by decide +kernel
theorem dX1_obeys_252 : decode cX1_obeys 252 = .ok (.goto 4, 3) := by decide +kernel
theorem dX1_obeys_255 : decode cX1_obeys 255 = .ok (.iconst 0, 1) := by decide +kernel
theorem dX1_obeys_256 : decode cX1_obeys 256 = .ok (.ireturn, 1) := by decide +kernel
theorem dX1_obeys_257 : decode cX1_obeys 257 = .ok (.aload_n 0, 1) := by decide +kernel
theorem dX1_obeys_258 : decode cX1_obeys 258 = .ok (.iload 4, 2) := by decide +kernel
theorem dX1_obeys_260 : decode cX1_obeys 260 = .ok (.invokevirtual 163, 3) := by decide +kernel
theorem dX1_obeys_263 : decode cX1_obeys 263 = .ok (.ifCond .eq 18, 3) := by decide +kernel
theorem dX1_obeys_266 : decode cX1_obeys 266 = .ok (.aload_n 0, 1) := by decide +kernel
theorem dX1_obeys_267 : decode cX1_obeys 267 = .ok (.iload 4, 2) := by decide +kernel
theorem dX1_obeys_269 : decode cX1_obeys 269 = .ok (.invokevirtual 128, 3) := by decide +kernel
theorem dX1_obeys_272 : decode cX1_obeys 272 = .ok (.iload 5, 2) := by decide +kernel
theorem dX1_obeys_274 : decode cX1_obeys 274 = .ok (.if_icmp .ne 7, 3) := by decide +kernel
theorem dX1_obeys_277 : decode cX1_obeys 277 = .ok (.iconst 1, 1) := by decide +kernel
theorem dX1_obeys_278 : decode cX1_obeys 278 = .ok (.goto 4, 3) := by decide +kernel
theorem dX1_obeys_281 : decode cX1_obeys 281 = .ok (.iconst 0, 1) := by decide +kernel
theorem dX1_obeys_282 : decode cX1_obeys 282 = .ok (.ireturn, 1) := by decide +kernel
theorem dX1_obeys_283 : decode cX1_obeys 283 = .ok (.iload_n 2, 1) := by decide +kernel
theorem dX1_obeys_284 : decode cX1_obeys 284 = .ok (.ifCond .ne 19, 3) := by decide +kernel
theorem dX1_obeys_287 : decode cX1_obeys 287 = .ok (.aload_n 0, 1) := by decide +kernel
theorem dX1_obeys_288 : decode cX1_obeys 288 = .ok (.getfield 53, 3) := by decide +kernel
theorem dX1_obeys_291 : decode cX1_obeys 291 = .ok (.iload_n 1, 1) := by decide +kernel
theorem dX1_obeys_292 : decode cX1_obeys 292 = .ok (.sipush 1000, 3) := by decide +kernel
theorem dX1_obeys_295 : decode cX1_obeys 295 = .ok (.irem, 1) := by decide +kernel
theorem dX1_obeys_296 : decode cX1_obeys 296 = .ok (.if_icmp .gt 7, 3) := by decide +kernel
theorem dX1_obeys_299 : decode cX1_obeys 299 = .ok (.iconst 1, 1) := by decide +kernel
theorem dX1_obeys_300 : decode cX1_obeys 300 = .ok (.goto 4, 3) := by decide +kernel
theorem dX1_obeys_303 : decode cX1_obeys 303 = .ok (.iconst 0, 1) := by decide +kernel
theorem dX1_obeys_304 : decode cX1_obeys 304 = .ok (.ireturn, 1) := by decide +kernel
theorem dX1_obeys_305 : decode cX1_obeys 305 = .ok (.iconst 0, 1) := by decide +kernel
theorem dX1_obeys_306 : decode cX1_obeys 306 = .ok (.ireturn, 1) := by decide +kernel
set_option maxRecDepth 20000 in
theorem ggX1_takeTurn_X1_enter : GoodIn wsX1_takeTurn wsX1_enter := goodIn_r _ [11, 6, 12, 13, 14, 15, 10, 16, 17, 18, 19, 20, 21, 1, 22, 23, 24, 25, 26, 27, 28, 29, 30, 31, 32, 33, 34, 35, 36, 37, 38, 39, 40, 41, 42, 43, 44, 45, 46, 47, 48, 49, 50, 51, 52, 53, 54, 55, 56, 57, 158, 159, 160, 161, 162, 163, 164, 165, 166, 167, 168, 169, 170, 171, 172, 173, 174, 175, 176, 177, 178, 179, 180, 181, 182] (by decide +kernel) (by decide +kernel)
set_option maxRecDepth 20000 in
theorem gX1_takeTurn_X1_enter : GoodIn wsX1_takeTurn (wsV RX1 241 RX1 yX1_enter wsX1_enter) := goodIn_app (goodIn_of _ (by decide +kernel)) ggX1_takeTurn_X1_enter
set_option maxRecDepth 20000 in
theorem ggX1_takeTurn_X1_trade : GoodIn wsX1_takeTurn wsX1_trade := goodIn_r _ [61, 62, 63, 64, 65, 66, 67, 68, 10, 69, 70, 71, 72, 73, 74, 75, 76, 77, 78, 79, 6, 31, 32, 33, 34, 35, 36, 80, 81, 82, 83, 25, 26, 27, 28, 29, 30, 84, 85, 86, 54, 87, 56, 57, 88, 89, 90, 91, 92, 93, 94, 95, 96, 97, 98, 99, 100, 174, 175, 176, 177, 178, 179, 180, 181, 182, 158, 159, 160, 161, 162, 163, 164, 165, 166, 167, 168, 169, 170, 171, 172, 173] (by decide +kernel) (by decide +kernel)
set_option maxRecDepth 20000 in
theorem gX1_takeTurn_X1_trade : GoodIn wsX1_takeTurn (wsV RX1 246 RX1 yX1_trade wsX1_trade) := goodIn_app (goodIn_of _ (by decide +kernel)) ggX1_takeTurn_X1_trade
set_option maxRecDepth 20000 in
theorem ggX1_takeTurn_X1_pass : GoodIn wsX1_takeTurn wsX1_pass := goodIn_r _ [104, 62, 92, 105, 106, 4, 107, 64, 12, 108, 109, 110, 111, 112, 10, 113, 114, 71, 72, 73, 74, 75, 76, 77, 78, 79, 6, 31, 32, 33, 34, 35, 36, 80, 81, 82, 83, 25, 26, 27, 28, 29, 30, 84, 85, 86, 54, 87, 56, 57, 115, 116, 117, 118, 97, 98, 99, 100, 119, 120, 121, 122, 63, 123, 124, 125, 126, 127, 128, 93, 94, 95, 96, 174, 175, 176, 177, 178, 179, 180, 181, 182, 158, 159, 160, 161, 162, 163, 164, 165, 166, 167, 168, 169, 170, 171, 172, 173] (by decide +kernel) (by decide +kernel)
set_option maxRecDepth 20000 in
theorem gX1_takeTurn_X1_pass : GoodIn wsX1_takeTurn (wsV RX1 249 RX1 yX1_pass wsX1_pass) := goodIn_app (goodIn_of _ (by decide +kernel)) ggX1_takeTurn_X1_pass
set_option maxRecDepth 20000 in
theorem ggX1_takeTurn_X1_leave : GoodIn wsX1_takeTurn wsX1_leave := goodIn_r _ [132, 62, 70, 71, 72, 73, 10, 74, 75, 76, 77, 78, 79, 6, 31, 32, 33, 34, 35, 36, 25, 26, 27, 28, 29, 30, 80, 81, 82, 83, 84, 85, 86, 54, 87, 56, 57, 133, 134, 135, 136, 97, 98, 99, 100, 137, 138, 139, 40, 140, 43, 44, 174, 175, 176, 177, 178, 179, 180, 181, 182, 158, 159, 160, 161, 162, 163, 164, 165, 166, 167, 168, 169, 170, 171, 172, 173] (by decide +kernel) (by decide +kernel)
set_option maxRecDepth 20000 in
theorem gX1_takeTurn_X1_leave : GoodIn wsX1_takeTurn (wsV RX1 243 RX1 yX1_leave wsX1_leave) := goodIn_app (goodIn_of _ (by decide +kernel)) ggX1_takeTurn_X1_leave
set_option maxRecDepth 20000 in
theorem ggX1_takeTurn_X1_unite : GoodIn wsX1_takeTurn wsX1_unite := goodIn_r _ [144, 17, 62, 145, 146, 147, 148, 10, 149, 18, 19, 20, 21, 1, 25, 26, 27, 28, 29, 30, 115, 116, 117, 54, 118, 57, 97, 98, 99, 100, 56, 31, 32, 33, 34, 35, 36, 51, 52, 53, 55, 150, 151, 152, 153, 154, 155, 156, 157, 70, 93, 94, 95, 96, 169, 170, 171, 172, 173, 174, 175, 176, 177, 178, 179, 180, 181, 182, 158, 159, 160, 161, 162, 163, 164, 165, 166, 167, 168] (by decide +kernel) (by decide +kernel)
set_option maxRecDepth 20000 in
theorem gX1_takeTurn_X1_unite : GoodIn wsX1_takeTurn (wsV RX1 252 RX1 yX1_unite wsX1_unite) := goodIn_app (goodIn_of _ (by decide +kernel)) ggX1_takeTurn_X1_unite
theorem dX1_takeTurn_0 : decode cX1_takeTurn 0 = .ok (.iconst 1, 1) := by decide +kernel
theorem dX1_takeTurn_1 : decode cX1_takeTurn 1 = .ok (.aload_n 0, 1) := by decide +kernel
theorem dX1_takeTurn_2 : decode cX1_takeTurn 2 = .ok (.getfield 37, 3) := by decide +kernel
theorem dX1_takeTurn_5 : decode cX1_takeTurn 5 = .ok (.invokestatic 258, 3) := by decide +kernel
theorem dX1_takeTurn_8 : decode cX1_takeTurn 8 = .ok (.istore_n 2, 1) := by decide +kernel
theorem dX1_takeTurn_9 : decode cX1_takeTurn 9 = .ok (.iconst 1, 1) := by decide +kernel
theorem dX1_takeTurn_10 : decode cX1_takeTurn 10 = .ok (.aload_n 0, 1) := by decide +kernel
theorem dX1_takeTurn_11 : decode cX1_takeTurn 11 = .ok (.getfield 41, 3) := by decide +kernel
theorem dX1_takeTurn_14 : decode cX1_takeTurn 14 = .ok (.invokestatic 258, 3) := by decide +kernel
theorem dX1_takeTurn_17 : decode cX1_takeTurn 17 = .ok (.istore_n 3, 1) := by decide +kernel
theorem dX1_takeTurn_18 : decode cX1_takeTurn 18 = .ok (.iload_n 1, 1) := by decide +kernel
theorem dX1_takeTurn_19 : decode cX1_takeTurn 19 = .ok (.bipush 16, 2) := by decide +kernel
theorem dX1_takeTurn_21 : decode cX1_takeTurn 21 = .ok (.idiv, 1) := by decide +kernel
theorem dX1_takeTurn_22 : decode cX1_takeTurn 22 = .ok (.iload_n 2, 1) := by decide +kernel
theorem dX1_takeTurn_23 : decode cX1_takeTurn 23 = .ok (.irem, 1) := by decide +kernel
theorem dX1_takeTurn_24 : decode cX1_takeTurn 24 = .ok (.istore 4, 2) := by decide +kernel
theorem dX1_takeTurn_26 : decode cX1_takeTurn 26 = .ok (.iload_n 1, 1) := by decide +kernel
theorem dX1_takeTurn_27 : decode cX1_takeTurn 27 = .ok (.bipush 64, 2) := by decide +kernel
theorem dX1_takeTurn_29 : decode cX1_takeTurn 29 = .ok (.idiv, 1) := by decide +kernel
theorem dX1_takeTurn_30 : decode cX1_takeTurn 30 = .ok (.iload_n 3, 1) := by decide +kernel
theorem dX1_takeTurn_31 : decode cX1_takeTurn 31 = .ok (.irem, 1) := by decide +kernel
theorem dX1_takeTurn_32 : decode cX1_takeTurn 32 = .ok (.istore 5, 2) := by decide +kernel
theorem dX1_takeTurn_34 : decode cX1_takeTurn 34 = .ok (.iload_n 1, 1) := by decide +kernel
theorem dX1_takeTurn_35 : decode cX1_takeTurn 35 = .ok (.bipush 16, 2) := by decide +kernel
theorem dX1_takeTurn_37 : decode cX1_takeTurn 37 = .ok (.irem, 1) := by decide +kernel
theorem dX1_takeTurn_38 : decode cX1_takeTurn 38 = .ok (.istore 6, 2) := by decide +kernel
theorem dX1_takeTurn_40 : decode cX1_takeTurn 40 = .ok (.iload 6, 2) := by decide +kernel
theorem dX1_takeTurn_42 : decode cX1_takeTurn 42 = .ok (.iconst 4, 1) := by decide +kernel
theorem dX1_takeTurn_43 : decode cX1_takeTurn 43 = .ok (.if_icmp .gt 19, 3) := by decide +kernel
theorem dX1_takeTurn_46 : decode cX1_takeTurn 46 = .ok (.aload_n 0, 1) := by decide +kernel
theorem dX1_takeTurn_47 : decode cX1_takeTurn 47 = .ok (.iload 4, 2) := by decide +kernel
theorem dX1_takeTurn_49 : decode cX1_takeTurn 49 = .ok (.iload_n 1, 1) := by decide +kernel
theorem dX1_takeTurn_50 : decode cX1_takeTurn 50 = .ok (.bipush 64, 2) := by decide +kernel
theorem dX1_takeTurn_52 : decode cX1_takeTurn 52 = .ok (.idiv, 1) := by decide +kernel
theorem dX1_takeTurn_53 : decode cX1_takeTurn 53 = .ok (.iconst 3, 1) := by decide +kernel
theorem dX1_takeTurn_54 : decode cX1_takeTurn 54 = .ok (.irem, 1) := by decide +kernel
theorem dX1_takeTurn_55 : decode cX1_takeTurn 55 = .ok (.invokevirtual 241, 3) := by decide +kernel
theorem dX1_takeTurn_58 : decode cX1_takeTurn 58 = .ok (.pop, 1) := by decide +kernel
theorem dX1_takeTurn_59 : decode cX1_takeTurn 59 = .ok (.goto 81, 3) := by decide +kernel
theorem dX1_takeTurn_62 : decode cX1_takeTurn 62 = .ok (.iload 6, 2) := by decide +kernel
theorem dX1_takeTurn_64 : decode cX1_takeTurn 64 = .ok (.bipush 7, 2) := by decide +kernel
theorem dX1_takeTurn_66 : decode cX1_takeTurn 66 = .ok (.if_icmp .gt 20, 3) := by decide +kernel
theorem dX1_takeTurn_69 : decode cX1_takeTurn 69 = .ok (.aload_n 0, 1) := by decide +kernel
theorem dX1_takeTurn_70 : decode cX1_takeTurn 70 = .ok (.iload 5, 2) := by decide +kernel
theorem dX1_takeTurn_72 : decode cX1_takeTurn 72 = .ok (.iload_n 1, 1) := by decide +kernel
theorem dX1_takeTurn_73 : decode cX1_takeTurn 73 = .ok (.sipush 2048, 3) := by decide +kernel
theorem dX1_takeTurn_76 : decode cX1_takeTurn 76 = .ok (.idiv, 1) := by decide +kernel
theorem dX1_takeTurn_77 : decode cX1_takeTurn 77 = .ok (.iload_n 3, 1) := by decide +kernel
theorem dX1_takeTurn_78 : decode cX1_takeTurn 78 = .ok (.irem, 1) := by decide +kernel
theorem dX1_takeTurn_79 : decode cX1_takeTurn 79 = .ok (.invokevirtual 246, 3) := by decide +kernel
theorem dX1_takeTurn_82 : decode cX1_takeTurn 82 = .ok (.pop, 1) := by decide +kernel
theorem dX1_takeTurn_83 : decode cX1_takeTurn 83 = .ok (.goto 57, 3) := by decide +kernel
theorem dX1_takeTurn_86 : decode cX1_takeTurn 86 = .ok (.iload 6, 2) := by decide +kernel
theorem dX1_takeTurn_88 : decode cX1_takeTurn 88 = .ok (.bipush 9, 2) := by decide +kernel
theorem dX1_takeTurn_90 : decode cX1_takeTurn 90 = .ok (.if_icmp .gt 13, 3) := by decide +kernel
theorem dX1_takeTurn_93 : decode cX1_takeTurn 93 = .ok (.aload_n 0, 1) := by decide +kernel
theorem dX1_takeTurn_94 : decode cX1_takeTurn 94 = .ok (.iload 5, 2) := by decide +kernel
theorem dX1_takeTurn_96 : decode cX1_takeTurn 96 = .ok (.invokevirtual 249, 3) := by decide +kernel
theorem dX1_takeTurn_99 : decode cX1_takeTurn 99 = .ok (.pop, 1) := by decide +kernel
theorem dX1_takeTurn_100 : decode cX1_takeTurn 100 = .ok (.goto 40, 3) := by decide +kernel
theorem dX1_takeTurn_103 : decode cX1_takeTurn 103 = .ok (.iload 6, 2) := by decide +kernel
theorem dX1_takeTurn_105 : decode cX1_takeTurn 105 = .ok (.bipush 10, 2) := by decide +kernel
theorem dX1_takeTurn_107 : decode cX1_takeTurn 107 = .ok (.if_icmp .ne 13, 3) := by decide +kernel
theorem dX1_takeTurn_110 : decode cX1_takeTurn 110 = .ok (.aload_n 0, 1) := by decide +kernel
theorem dX1_takeTurn_111 : decode cX1_takeTurn 111 = .ok (.iload 5, 2) := by decide +kernel
theorem dX1_takeTurn_113 : decode cX1_takeTurn 113 = .ok (.invokevirtual 243, 3) := by decide +kernel
theorem dX1_takeTurn_116 : decode cX1_takeTurn 116 = .ok (.pop, 1) := by decide +kernel
theorem dX1_takeTurn_117 : decode cX1_takeTurn 117 = .ok (.goto 23, 3) := by decide +kernel
theorem dX1_takeTurn_120 : decode cX1_takeTurn 120 = .ok (.iload 6, 2) := by decide +kernel
theorem dX1_takeTurn_122 : decode cX1_takeTurn 122 = .ok (.bipush 11, 2) := by decide +kernel
theorem dX1_takeTurn_124 : decode cX1_takeTurn 124 = .ok (.if_icmp .ne 16, 3) := by decide +kernel
theorem dX1_takeTurn_127 : decode cX1_takeTurn 127 = .ok (.aload_n 0, 1) := by decide +kernel
theorem dX1_takeTurn_128 : decode cX1_takeTurn 128 = .ok (.iload 4, 2) := by decide +kernel
theorem dX1_takeTurn_130 : decode cX1_takeTurn 130 = .ok (.iload_n 1, 1) := by decide +kernel
theorem dX1_takeTurn_131 : decode cX1_takeTurn 131 = .ok (.bipush 64, 2) := by decide +kernel
theorem dX1_takeTurn_133 : decode cX1_takeTurn 133 = .ok (.idiv, 1) := by decide +kernel
theorem dX1_takeTurn_134 : decode cX1_takeTurn 134 = .ok (.iload_n 2, 1) := by decide +kernel
theorem dX1_takeTurn_135 : decode cX1_takeTurn 135 = .ok (.irem, 1) := by decide +kernel
theorem dX1_takeTurn_136 : decode cX1_takeTurn 136 = .ok (.invokevirtual 252, 3) := by decide +kernel
theorem dX1_takeTurn_139 : decode cX1_takeTurn 139 = .ok (.pop, 1) := by decide +kernel
theorem dX1_takeTurn_140 : decode cX1_takeTurn 140 = .ok (.return_, 1) := by decide +kernel
set_option maxRecDepth 20000 in
theorem ggX2_init_X1_init : GoodIn wsX2_init wsX1_init := goodIn_r _ [10, 11, 2, 3, 12, 13, 14, 15, 16, 17, 18, 19, 20, 21, 22, 23, 24, 25, 26, 27, 28, 29, 30, 31, 32, 36, 37, 38, 39, 40, 41, 42, 43, 44, 45, 46, 47, 48, 49, 50, 51, 52, 53, 54, 55, 56, 57, 58, 59, 60] (by decide +kernel) (by decide +kernel)
set_option maxRecDepth 20000 in
theorem gX2_init_X1_init : GoodIn wsX2_init (wsX1_init) := ggX2_init_X1_init
theorem dX2_init_0 : decode cX2_init 0 = .ok (.aload_n 0, 1) := by decide +kernel
theorem dX2_init_1 : decode cX2_init 1 = .ok (.invokespecial 3, 3) := by decide +kernel
theorem dX2_init_4 : decode cX2_init 4 = .ok (.aload_n 0, 1) := by decide +kernel
theorem dX2_init_5 : decode cX2_init 5 = .ok (.bipush 14, 2) := by decide +kernel
theorem dX2_init_7 : decode cX2_init 7 = .ok (.anewarray 9, 3) := by decide +kernel
theorem dX2_init_10 : decode cX2_init 10 = .ok (.putfield 11, 3) := by decide +kernel
theorem dX2_init_13 : decode cX2_init 13 = .ok (.iconst 0, 1) := by decide +kernel
theorem dX2_init_14 : decode cX2_init 14 = .ok (.istore_n 1, 1) := by decide +kernel
theorem dX2_init_15 : decode cX2_init 15 = .ok (.iload_n 1, 1) := by decide +kernel
theorem dX2_init_16 : decode cX2_init 16 = .ok (.aload_n 0, 1) := by decide +kernel
theorem dX2_init_17 : decode cX2_init 17 = .ok (.getfield 11, 3) := by decide +kernel
theorem dX2_init_20 : decode cX2_init 20 = .ok (.arraylength, 1) := by decide +kernel
theorem dX2_init_21 : decode cX2_init 21 = .ok (.if_icmp .ge 22, 3) := by decide +kernel
theorem dX2_init_24 : decode cX2_init 24 = .ok (.aload_n 0, 1) := by decide +kernel
theorem dX2_init_25 : decode cX2_init 25 = .ok (.getfield 11, 3) := by decide +kernel
theorem dX2_init_28 : decode cX2_init 28 = .ok (.iload_n 1, 1) := by decide +kernel
theorem dX2_init_29 : decode cX2_init 29 = .ok (.new 9, 3) := by decide +kernel
theorem dX2_init_32 : decode cX2_init 32 = .ok (.dup, 1) := by decide +kernel
theorem dX2_init_33 : decode cX2_init 33 = .ok (.invokespecial 17, 3) := by decide +kernel
theorem dX2_init_36 : decode cX2_init 36 = .ok (.aastore, 1) := by decide +kernel
theorem dX2_init_37 : decode cX2_init 37 = .ok (.iinc 1 1, 3) := by decide +kernel
theorem dX2_init_40 : decode cX2_init 40 = .ok (.goto (-25), 3) := by decide +kernel
theorem dX2_init_43 : decode cX2_init 43 = .ok (.return_, 1) := by decide +kernel
theorem dX2_isEmpty_0 : decode cX2_isEmpty 0 = .ok (.aload_n 0, 1) := by decide +kernel
theorem dX2_isEmpty_1 : decode cX2_isEmpty 1 = .ok (.getfield 18, 3) := by decide +kernel
theorem dX2_isEmpty_4 : decode cX2_isEmpty 4 = .ok (.ifCond .ne 7, 3) := by decide +kernel
theorem dX2_isEmpty_7 : decode cX2_isEmpty 7 = .ok (.iconst 1, 1) := by decide +kernel
theorem dX2_isEmpty_8 : decode cX2_isEmpty 8 = .ok (.goto 4, 3) := by decide +kernel
theorem dX2_isEmpty_11 : decode cX2_isEmpty 11 = .ok (.iconst 0, 1) := by decide +kernel
theorem dX2_isEmpty_12 : decode cX2_isEmpty 12 = .ok (.ireturn, 1) := by decide +kernel
theorem dX2_forgetAll_0 : decode cX2_forgetAll 0 = .ok (.aload_n 0, 1) := by decide +kernel
theorem dX2_forgetAll_1 : decode cX2_forgetAll 1 = .ok (.iconst 0, 1) := by decide +kernel
theorem dX2_forgetAll_2 : decode cX2_forgetAll 2 = .ok (.putfield 22, 3) := by decide +kernel
theorem dX2_forgetAll_5 : decode cX2_forgetAll 5 = .ok (.aload_n 0, 1) := by decide +kernel
theorem dX2_forgetAll_6 : decode cX2_forgetAll 6 = .ok (.iconst 0, 1) := by decide +kernel
theorem dX2_forgetAll_7 : decode cX2_forgetAll 7 = .ok (.putfield 18, 3) := by decide +kernel
theorem dX2_forgetAll_10 : decode cX2_forgetAll 10 = .ok (.return_, 1) := by decide +kernel
set_option maxRecDepth 20000 in
theorem ggX2_stateAt_J9_floorMod_7cf53 : GoodIn wsX2_stateAt wsJ9_floorMod_7cf53 := goodIn_r _ [6] (by decide +kernel) (by decide +kernel)
set_option maxRecDepth 20000 in
theorem gX2_stateAt_J9_floorMod_7cf53 : GoodIn wsX2_stateAt (va_wsS RX2 25 yJ9_floorMod_7cf53 wsJ9_floorMod_7cf53) := goodIn_app (goodIn_of _ (by decide +kernel)) ggX2_stateAt_J9_floorMod_7cf53
theorem dX2_stateAt_0 : decode cX2_stateAt 0 = .ok (.aload_n 0, 1) := by decide +kernel
theorem dX2_stateAt_1 : decode cX2_stateAt 1 = .ok (.getfield 11, 3) := by decide +kernel
theorem dX2_stateAt_4 : decode cX2_stateAt 4 = .ok (.aload_n 0, 1) := by decide +kernel
theorem dX2_stateAt_5 : decode cX2_stateAt 5 = .ok (.getfield 22, 3) := by decide +kernel
theorem dX2_stateAt_8 : decode cX2_stateAt 8 = .ok (.iload_n 1, 1) := by decide +kernel
theorem dX2_stateAt_9 : decode cX2_stateAt 9 = .ok (.iadd, 1) := by decide +kernel
theorem dX2_stateAt_10 : decode cX2_stateAt 10 = .ok (.bipush 14, 2) := by decide +kernel
theorem dX2_stateAt_12 : decode cX2_stateAt 12 = .ok (.invokestatic 25, 3) := by decide +kernel
theorem dX2_stateAt_15 : decode cX2_stateAt 15 = .ok (.aaload, 1) := by decide +kernel
theorem dX2_stateAt_16 : decode cX2_stateAt 16 = .ok (.areturn, 1) := by decide +kernel
set_option maxRecDepth 20000 in
theorem ggX2_remember_X2_stateAt : GoodIn wsX2_remember wsX2_stateAt := goodIn_r _ [7, 8, 2, 9, 10, 11, 12, 66, 67, 68] (by decide +kernel) (by decide +kernel)
set_option maxRecDepth 20000 in
theorem gX2_remember_X2_stateAt : GoodIn wsX2_remember (wsV RX2 31 RX2 yX2_stateAt wsX2_stateAt) := goodIn_app (goodIn_of _ (by decide +kernel)) ggX2_remember_X2_stateAt
set_option maxRecDepth 20000 in
theorem ggX2_remember_X1_copyFrom : GoodIn wsX2_remember wsX1_copyFrom := goodIn_r _ [17, 18, 19, 20, 21, 22, 23, 24, 25, 26, 27, 28, 29, 30, 31, 32, 33, 16, 34, 35, 36, 37, 38, 39, 40, 41, 42, 43, 44, 45, 46, 47, 48, 49, 50, 51, 52, 53, 54, 55, 56, 57, 58, 59, 60, 61, 62, 63, 64, 65, 69, 70, 71, 72, 73, 74, 75, 76, 77, 78, 79, 80, 81, 82, 83, 84, 85, 86, 87, 88, 89, 90, 91, 92, 93] (by decide +kernel) (by decide +kernel)
set_option maxRecDepth 20000 in
theorem gX2_remember_X1_copyFrom : GoodIn wsX2_remember (wsV RX2 35 RX1 yX1_copyFrom wsX1_copyFrom) := goodIn_app (goodIn_of _ (by decide +kernel)) ggX2_remember_X1_copyFrom
theorem dX2_remember_0 : decode cX2_remember 0 = .ok (.aload_n 0, 1) := by decide +kernel
theorem dX2_remember_1 : decode cX2_remember 1 = .ok (.aload_n 0, 1) := by decide +kernel
theorem dX2_remember_2 : decode cX2_remember 2 = .ok (.getfield 18, 3) := by decide +kernel
theorem dX2_remember_5 : decode cX2_remember 5 = .ok (.invokevirtual 31, 3) := by decide +kernel
theorem dX2_remember_8 : decode cX2_remember 8 = .ok (.aload_n 1, 1) := by decide +kernel
theorem dX2_remember_9 : decode cX2_remember 9 = .ok (.invokevirtual 35, 3) := by decide +kernel
theorem dX2_remember_12 : decode cX2_remember 12 = .ok (.aload_n 0, 1) := by decide +kernel
theorem dX2_remember_13 : decode cX2_remember 13 = .ok (.getfield 18, 3) := by decide +kernel
theorem dX2_remember_16 : decode cX2_remember 16 = .ok (.bipush 14, 2) := by decide +kernel
theorem dX2_remember_18 : decode cX2_remember 18 = .ok (.if_icmp .ge 16, 3) := by decide +kernel
theorem dX2_remember_21 : decode cX2_remember 21 = .ok (.aload_n 0, 1) := by decide +kernel
theorem dX2_remember_22 : decode cX2_remember 22 = .ok (.dup, 1) := by decide +kernel
theorem dX2_remember_23 : decode cX2_remember 23 = .ok (.getfield 18, 3) := by decide +kernel
theorem dX2_remember_26 : decode cX2_remember 26 = .ok (.iconst 1, 1) := by decide +kernel
theorem dX2_remember_27 : decode cX2_remember 27 = .ok (.iadd, 1) := by decide +kernel
theorem dX2_remember_28 : decode cX2_remember 28 = .ok (.putfield 18, 3) := by decide +kernel
theorem dX2_remember_31 : decode cX2_remember 31 = .ok (.goto 16, 3) := by decide +kernel
theorem dX2_remember_34 : decode cX2_remember 34 = .ok (.aload_n 0, 1) := by decide +kernel
theorem dX2_remember_35 : decode cX2_remember 35 = .ok (.aload_n 0, 1) := by decide +kernel
theorem dX2_remember_36 : decode cX2_remember 36 = .ok (.getfield 22, 3) := by decide +kernel
theorem dX2_remember_39 : decode cX2_remember 39 = .ok (.iconst 1, 1) := by decide +kernel
theorem dX2_remember_40 : decode cX2_remember 40 = .ok (.iadd, 1) := by decide +kernel
theorem dX2_remember_41 : decode cX2_remember 41 = .ok (.bipush 14, 2) := by decide +kernel
theorem dX2_remember_43 : decode cX2_remember 43 = .ok (.irem, 1) := by decide +kernel
theorem dX2_remember_44 : decode cX2_remember 44 = .ok (.putfield 22, 3) := by decide +kernel
theorem dX2_remember_47 : decode cX2_remember 47 = .ok (.return_, 1) := by decide +kernel
set_option maxRecDepth 20000 in
theorem ggX2_takeBack_X2_isEmpty : GoodIn wsX2_takeBack wsX2_isEmpty := goodIn_r _ [6, 1, 70, 71, 72] (by decide +kernel) (by decide +kernel)
set_option maxRecDepth 20000 in
theorem gX2_takeBack_X2_isEmpty : GoodIn wsX2_takeBack (wsV RX2 39 RX2 yX2_isEmpty wsX2_isEmpty) := goodIn_app (goodIn_of _ (by decide +kernel)) ggX2_takeBack_X2_isEmpty
set_option maxRecDepth 20000 in
theorem ggX2_takeBack_X2_stateAt : GoodIn wsX2_takeBack wsX2_stateAt := goodIn_r _ [10, 11, 12, 13, 14, 15, 16, 70, 71, 72] (by decide +kernel) (by decide +kernel)
set_option maxRecDepth 20000 in
theorem gX2_takeBack_X2_stateAt : GoodIn wsX2_takeBack (wsV RX2 31 RX2 yX2_stateAt wsX2_stateAt) := goodIn_app (goodIn_of _ (by decide +kernel)) ggX2_takeBack_X2_stateAt
set_option maxRecDepth 20000 in
theorem ggX2_takeBack_X1_copyFrom : GoodIn wsX2_takeBack wsX1_copyFrom := goodIn_r _ [21, 22, 23, 24, 25, 26, 27, 28, 29, 30, 31, 32, 33, 34, 35, 36, 37, 20, 38, 39, 40, 41, 42, 43, 44, 45, 46, 47, 48, 49, 50, 51, 52, 53, 54, 55, 56, 57, 58, 59, 60, 61, 62, 63, 64, 65, 66, 67, 68, 69, 73, 74, 75, 76, 77, 78, 79, 80, 81, 82, 83, 84, 85, 86, 87, 88, 89, 90, 91, 92, 93, 94, 95, 96, 97] (by decide +kernel) (by decide +kernel)
set_option maxRecDepth 20000 in
theorem gX2_takeBack_X1_copyFrom : GoodIn wsX2_takeBack (wsV RX2 35 RX1 yX1_copyFrom wsX1_copyFrom) := goodIn_app (goodIn_of _ (by decide +kernel)) ggX2_takeBack_X1_copyFrom
theorem dX2_takeBack_0 : decode cX2_takeBack 0 = .ok (.aload_n 0, 1) := by decide +kernel
theorem dX2_takeBack_1 : decode cX2_takeBack 1 = .ok (.invokevirtual 39, 3) := by decide +kernel
theorem dX2_takeBack_4 : decode cX2_takeBack 4 = .ok (.ifCond .eq 5, 3) := by decide +kernel
theorem dX2_takeBack_7 : decode cX2_takeBack 7 = .ok (.iconst (-1), 1) := by decide +kernel
theorem dX2_takeBack_8 : decode cX2_takeBack 8 = .ok (.ireturn, 1) := by decide +kernel
theorem dX2_takeBack_9 : decode cX2_takeBack 9 = .ok (.aload_n 0, 1) := by decide +kernel
theorem dX2_takeBack_10 : decode cX2_takeBack 10 = .ok (.dup, 1) := by decide +kernel
theorem dX2_takeBack_11 : decode cX2_takeBack 11 = .ok (.getfield 18, 3) := by decide +kernel
theorem dX2_takeBack_14 : decode cX2_takeBack 14 = .ok (.iconst 1, 1) := by decide +kernel
theorem dX2_takeBack_15 : decode cX2_takeBack 15 = .ok (.isub, 1) := by decide +kernel
theorem dX2_takeBack_16 : decode cX2_takeBack 16 = .ok (.putfield 18, 3) := by decide +kernel
theorem dX2_takeBack_19 : decode cX2_takeBack 19 = .ok (.aload_n 1, 1) := by decide +kernel
theorem dX2_takeBack_20 : decode cX2_takeBack 20 = .ok (.aload_n 0, 1) := by decide +kernel
theorem dX2_takeBack_21 : decode cX2_takeBack 21 = .ok (.aload_n 0, 1) := by decide +kernel
theorem dX2_takeBack_22 : decode cX2_takeBack 22 = .ok (.getfield 18, 3) := by decide +kernel
theorem dX2_takeBack_25 : decode cX2_takeBack 25 = .ok (.invokevirtual 31, 3) := by decide +kernel
theorem dX2_takeBack_28 : decode cX2_takeBack 28 = .ok (.invokevirtual 35, 3) := by decide +kernel
theorem dX2_takeBack_31 : decode cX2_takeBack 31 = .ok (.aload_n 0, 1) := by decide +kernel
theorem dX2_takeBack_32 : decode cX2_takeBack 32 = .ok (.getfield 18, 3) := by decide +kernel
theorem dX2_takeBack_35 : decode cX2_takeBack 35 = .ok (.ireturn, 1) := by decide +kernel
theorem dX3_init_0 : decode cX3_init 0 = .ok (.aload_n 0, 1) := by decide +kernel
theorem dX3_init_1 : decode cX3_init 1 = .ok (.invokespecial 3, 3) := by decide +kernel
theorem dX3_init_4 : decode cX3_init 4 = .ok (.aload_n 0, 1) := by decide +kernel
theorem dX3_init_5 : decode cX3_init 5 = .ok (.bipush 12, 2) := by decide +kernel
theorem dX3_init_7 : decode cX3_init 7 = .ok (.newarray .int, 2) := by decide +kernel
theorem dX3_init_9 : decode cX3_init 9 = .ok (.putfield 9, 3) := by decide +kernel
theorem dX3_init_12 : decode cX3_init 12 = .ok (.return_, 1) := by decide +kernel
theorem dX3_begin_0 : decode cX3_begin 0 = .ok (.aload_n 0, 1) := by decide +kernel
theorem dX3_begin_1 : decode cX3_begin 1 = .ok (.iload_n 1, 1) := by decide +kernel
theorem dX3_begin_2 : decode cX3_begin 2 = .ok (.putfield 15, 3) := by decide +kernel
theorem dX3_begin_5 : decode cX3_begin 5 = .ok (.aload_n 0, 1) := by decide +kernel
theorem dX3_begin_6 : decode cX3_begin 6 = .ok (.iconst 0, 1) := by decide +kernel
theorem dX3_begin_7 : decode cX3_begin 7 = .ok (.putfield 19, 3) := by decide +kernel
theorem dX3_begin_10 : decode cX3_begin 10 = .ok (.aload_n 0, 1) := by decide +kernel
theorem dX3_begin_11 : decode cX3_begin 11 = .ok (.iconst 0, 1) := by decide +kernel
theorem dX3_begin_12 : decode cX3_begin 12 = .ok (.putfield 22, 3) := by decide +kernel
theorem dX3_begin_15 : decode cX3_begin 15 = .ok (.aload_n 0, 1) := by decide +kernel
theorem dX3_begin_16 : decode cX3_begin 16 = .ok (.iconst 0, 1) := by decide +kernel
theorem dX3_begin_17 : decode cX3_begin 17 = .ok (.putfield 25, 3) := by decide +kernel
theorem dX3_begin_20 : decode cX3_begin 20 = .ok (.return_, 1) := by decide +kernel
theorem dX3_copyFrom_0 : decode cX3_copyFrom 0 = .ok (.aload_n 0, 1) := by decide +kernel
theorem dX3_copyFrom_1 : decode cX3_copyFrom 1 = .ok (.aload_n 1, 1) := by decide +kernel
theorem dX3_copyFrom_2 : decode cX3_copyFrom 2 = .ok (.getfield 15, 3) := by decide +kernel
theorem dX3_copyFrom_5 : decode cX3_copyFrom 5 = .ok (.putfield 15, 3) := by decide +kernel
theorem dX3_copyFrom_8 : decode cX3_copyFrom 8 = .ok (.aload_n 0, 1) := by decide +kernel
theorem dX3_copyFrom_9 : decode cX3_copyFrom 9 = .ok (.aload_n 1, 1) := by decide +kernel
theorem dX3_copyFrom_10 : decode cX3_copyFrom 10 = .ok (.getfield 19, 3) := by decide +kernel
theorem dX3_copyFrom_13 : decode cX3_copyFrom 13 = .ok (.putfield 19, 3) := by decide +kernel
theorem dX3_copyFrom_16 : decode cX3_copyFrom 16 = .ok (.aload_n 0, 1) := by decide +kernel
theorem dX3_copyFrom_17 : decode cX3_copyFrom 17 = .ok (.aload_n 1, 1) := by decide +kernel
theorem dX3_copyFrom_18 : decode cX3_copyFrom 18 = .ok (.getfield 22, 3) := by decide +kernel
theorem dX3_copyFrom_21 : decode cX3_copyFrom 21 = .ok (.putfield 22, 3) := by decide +kernel
theorem dX3_copyFrom_24 : decode cX3_copyFrom 24 = .ok (.aload_n 0, 1) := by decide +kernel
theorem dX3_copyFrom_25 : decode cX3_copyFrom 25 = .ok (.aload_n 1, 1) := by decide +kernel
theorem dX3_copyFrom_26 : decode cX3_copyFrom 26 = .ok (.getfield 25, 3) := by decide +kernel
theorem dX3_copyFrom_29 : decode cX3_copyFrom 29 = .ok (.putfield 25, 3) := by decide +kernel
theorem dX3_copyFrom_32 : decode cX3_copyFrom 32 = .ok (.aload_n 1, 1) := by decide +kernel
theorem dX3_copyFrom_33 : decode cX3_copyFrom 33 = .ok (.getfield 9, 3) := by decide +kernel
theorem dX3_copyFrom_36 : decode cX3_copyFrom 36 = .ok (.iconst 0, 1) := by decide +kernel
theorem dX3_copyFrom_37 : decode cX3_copyFrom 37 = .ok (.aload_n 0, 1) := by decide +kernel
theorem dX3_copyFrom_38 : decode cX3_copyFrom 38 = .ok (.getfield 9, 3) := by decide +kernel
theorem dX3_copyFrom_41 : decode cX3_copyFrom 41 = .ok (.iconst 0, 1) := by decide +kernel
theorem dX3_copyFrom_42 : decode cX3_copyFrom 42 = .ok (.aload_n 0, 1) := by decide +kernel
theorem dX3_copyFrom_43 : decode cX3_copyFrom 43 = .ok (.getfield 9, 3) := by decide +kernel
theorem dX3_copyFrom_46 : decode cX3_copyFrom 46 = .ok (.arraylength, 1) := by decide +kernel
theorem dX3_copyFrom_47 : decode cX3_copyFrom 47 = .ok (.invokestatic 28, 3) := by decide +kernel
theorem dX3_copyFrom_50 : decode cX3_copyFrom 50 = .ok (.return_, 1) := by decide +kernel
theorem dX3_isPlace_0 : decode cX3_isPlace 0 = .ok (.iload_n 1, 1) := by decide +kernel
theorem dX3_isPlace_1 : decode cX3_isPlace 1 = .ok (.ifCond .lt 24, 3) := by decide +kernel
theorem dX3_isPlace_4 : decode cX3_isPlace 4 = .ok (.iload_n 1, 1) := by decide +kernel
theorem dX3_isPlace_5 : decode cX3_isPlace 5 = .ok (.aload_n 0, 1) := by decide +kernel
theorem dX3_isPlace_6 : decode cX3_isPlace 6 = .ok (.getfield 25, 3) := by decide +kernel
theorem dX3_isPlace_9 : decode cX3_isPlace 9 = .ok (.if_icmp .ge 16, 3) := by decide +kernel
theorem dX3_isPlace_12 : decode cX3_isPlace 12 = .ok (.iload_n 1, 1) := by decide +kernel
theorem dX3_isPlace_13 : decode cX3_isPlace 13 = .ok (.aload_n 0, 1) := by decide +kernel
theorem dX3_isPlace_14 : decode cX3_isPlace 14 = .ok (.getfield 9, 3) := by decide +kernel
theorem dX3_isPlace_17 : decode cX3_isPlace 17 = .ok (.arraylength, 1) := by decide +kernel
theorem dX3_isPlace_18 : decode cX3_isPlace 18 = .ok (.if_icmp .ge 7, 3) := by decide +kernel
theorem dX3_isPlace_21 : decode cX3_isPlace 21 = .ok (.iconst 1, 1) := by decide +kernel
theorem dX3_isPlace_22 : decode cX3_isPlace 22 = .ok (.goto 4, 3) := by decide +kernel
theorem dX3_isPlace_25 : decode cX3_isPlace 25 = .ok (.iconst 0, 1) := by decide +kernel
theorem dX3_isPlace_26 : decode cX3_isPlace 26 = .ok (.ireturn, 1) := by decide +kernel
set_option maxRecDepth 20000 in
theorem ggX3_who_X3_isPlace : GoodIn wsX3_who wsX3_isPlace := goodIn_r _ [6, 7, 1, 8, 9, 10, 11, 12] (by decide +kernel) (by decide +kernel)
set_option maxRecDepth 20000 in
theorem gX3_who_X3_isPlace : GoodIn wsX3_who (wsV RX3 34 RX3 yX3_isPlace wsX3_isPlace) := goodIn_app (goodIn_of _ (by decide +kernel)) ggX3_who_X3_isPlace
theorem dX3_who_0 : decode cX3_who 0 = .ok (.aload_n 0, 1) := by decide +kernel
theorem dX3_who_1 : decode cX3_who 1 = .ok (.iload_n 1, 1) := by decide +kernel
theorem dX3_who_2 : decode cX3_who 2 = .ok (.invokevirtual 34, 3) := by decide +kernel
theorem dX3_who_5 : decode cX3_who 5 = .ok (.ifCond .eq 12, 3) := by decide +kernel
theorem dX3_who_8 : decode cX3_who 8 = .ok (.aload_n 0, 1) := by decide +kernel
theorem dX3_who_9 : decode cX3_who 9 = .ok (.getfield 9, 3) := by decide +kernel
theorem dX3_who_12 : decode cX3_who 12 = .ok (.iload_n 1, 1) := by decide +kernel
theorem dX3_who_13 : decode cX3_who 13 = .ok (.iaload, 1) := by decide +kernel
theorem dX3_who_14 : decode cX3_who 14 = .ok (.goto 4, 3) := by decide +kernel
theorem dX3_who_17 : decode cX3_who 17 = .ok (.iconst (-1), 1) := by decide +kernel
theorem dX3_who_18 : decode cX3_who 18 = .ok (.ireturn, 1) := by decide +kernel
theorem dX3_placeOf_0 : decode cX3_placeOf 0 = .ok (.iconst 0, 1) := by decide +kernel
theorem dX3_placeOf_1 : decode cX3_placeOf 1 = .ok (.istore_n 2, 1) := by decide +kernel
theorem dX3_placeOf_2 : decode cX3_placeOf 2 = .ok (.iload_n 2, 1) := by decide +kernel
theorem dX3_placeOf_3 : decode cX3_placeOf 3 = .ok (.aload_n 0, 1) := by decide +kernel
theorem dX3_placeOf_4 : decode cX3_placeOf 4 = .ok (.getfield 25, 3) := by decide +kernel
theorem dX3_placeOf_7 : decode cX3_placeOf 7 = .ok (.if_icmp .ge 30, 3) := by decide +kernel
theorem dX3_placeOf_10 : decode cX3_placeOf 10 = .ok (.iload_n 2, 1) := by decide +kernel
theorem dX3_placeOf_11 : decode cX3_placeOf 11 = .ok (.aload_n 0, 1) := by decide +kernel
theorem dX3_placeOf_12 : decode cX3_placeOf 12 = .ok (.getfield 9, 3) := by decide +kernel
theorem dX3_placeOf_15 : decode cX3_placeOf 15 = .ok (.arraylength, 1) := by decide +kernel
theorem dX3_placeOf_16 : decode cX3_placeOf 16 = .ok (.if_icmp .ge 21, 3) := by decide +kernel
theorem dX3_placeOf_19 : decode cX3_placeOf 19 = .ok (.aload_n 0, 1) := by decide +kernel
theorem dX3_placeOf_20 : decode cX3_placeOf 20 = .ok (.getfield 9, 3) := by decide +kernel
theorem dX3_placeOf_23 : decode cX3_placeOf 23 = .ok (.iload_n 2, 1) := by decide +kernel
theorem dX3_placeOf_24 : decode cX3_placeOf 24 = .ok (.iaload, 1) := by decide +kernel
theorem dX3_placeOf_25 : decode cX3_placeOf 25 = .ok (.iload_n 1, 1) := by decide +kernel
theorem dX3_placeOf_26 : decode cX3_placeOf 26 = .ok (.if_icmp .ne 5, 3) := by decide +kernel
theorem dX3_placeOf_29 : decode cX3_placeOf 29 = .ok (.iload_n 2, 1) := by decide +kernel
theorem dX3_placeOf_30 : decode cX3_placeOf 30 = .ok (.ireturn, 1) := by decide +kernel
theorem dX3_placeOf_31 : decode cX3_placeOf 31 = .ok (.iinc 2 1, 3) := by decide +kernel
theorem dX3_placeOf_34 : decode cX3_placeOf 34 = .ok (.goto (-32), 3) := by decide +kernel
theorem dX3_placeOf_37 : decode cX3_placeOf 37 = .ok (.iconst (-1), 1) := by decide +kernel
theorem dX3_placeOf_38 : decode cX3_placeOf 38 = .ok (.ireturn, 1) := by decide +kernel
theorem dX3_add_0 : decode cX3_add 0 = .ok (.aload_n 0, 1) := by decide +kernel
theorem dX3_add_1 : decode cX3_add 1 = .ok (.getfield 25, 3) := by decide +kernel
theorem dX3_add_4 : decode cX3_add 4 = .ok (.ifCond .lt 35, 3) := by decide +kernel
theorem dX3_add_7 : decode cX3_add 7 = .ok (.aload_n 0, 1) := by decide +kernel
theorem dX3_add_8 : decode cX3_add 8 = .ok (.getfield 25, 3) := by decide +kernel
theorem dX3_add_11 : decode cX3_add 11 = .ok (.aload_n 0, 1) := by decide +kernel
theorem dX3_add_12 : decode cX3_add 12 = .ok (.getfield 9, 3) := by decide +kernel
theorem dX3_add_15 : decode cX3_add 15 = .ok (.arraylength, 1) := by decide +kernel
theorem dX3_add_16 : decode cX3_add 16 = .ok (.if_icmp .ge 23, 3) := by decide +kernel
theorem dX3_add_19 : decode cX3_add 19 = .ok (.aload_n 0, 1) := by decide +kernel
theorem dX3_add_20 : decode cX3_add 20 = .ok (.getfield 9, 3) := by decide +kernel
theorem dX3_add_23 : decode cX3_add 23 = .ok (.aload_n 0, 1) := by decide +kernel
theorem dX3_add_24 : decode cX3_add 24 = .ok (.getfield 25, 3) := by decide +kernel
theorem dX3_add_27 : decode cX3_add 27 = .ok (.iload_n 1, 1) := by decide +kernel
theorem dX3_add_28 : decode cX3_add 28 = .ok (.iastore, 1) := by decide +kernel
theorem dX3_add_29 : decode cX3_add 29 = .ok (.aload_n 0, 1) := by decide +kernel
theorem dX3_add_30 : decode cX3_add 30 = .ok (.dup, 1) := by decide +kernel
theorem dX3_add_31 : decode cX3_add 31 = .ok (.getfield 25, 3) := by decide +kernel
theorem dX3_add_34 : decode cX3_add 34 = .ok (.iconst 1, 1) := by decide +kernel
theorem dX3_add_35 : decode cX3_add 35 = .ok (.iadd, 1) := by decide +kernel
theorem dX3_add_36 : decode cX3_add 36 = .ok (.putfield 25, 3) := by decide +kernel
theorem dX3_add_39 : decode cX3_add 39 = .ok (.return_, 1) := by decide +kernel
set_option maxRecDepth 20000 in
theorem ggX3_remove_X3_isPlace : GoodIn wsX3_remove wsX3_isPlace := goodIn_r _ [7, 1, 2, 8, 9, 10, 11, 12] (by decide +kernel) (by decide +kernel)
set_option maxRecDepth 20000 in
theorem gX3_remove_X3_isPlace : GoodIn wsX3_remove (wsV RX3 34 RX3 yX3_isPlace wsX3_isPlace) := goodIn_app (goodIn_of _ (by decide +kernel)) ggX3_remove_X3_isPlace
theorem dX3_remove_0 : decode cX3_remove 0 = .ok (.aload_n 0, 1) := by decide +kernel
theorem dX3_remove_1 : decode cX3_remove 1 = .ok (.iload_n 1, 1) := by decide +kernel
theorem dX3_remove_2 : decode cX3_remove 2 = .ok (.invokevirtual 34, 3) := by decide +kernel
theorem dX3_remove_5 : decode cX3_remove 5 = .ok (.ifCond .ne 4, 3) := by decide +kernel
theorem dX3_remove_8 : decode cX3_remove 8 = .ok (.return_, 1) := by decide +kernel
theorem dX3_remove_9 : decode cX3_remove 9 = .ok (.aload_n 0, 1) := by decide +kernel
theorem dX3_remove_10 : decode cX3_remove 10 = .ok (.dup, 1) := by decide +kernel
theorem dX3_remove_11 : decode cX3_remove 11 = .ok (.getfield 25, 3) := by decide +kernel
theorem dX3_remove_14 : decode cX3_remove 14 = .ok (.iconst 1, 1) := by decide +kernel
theorem dX3_remove_15 : decode cX3_remove 15 = .ok (.isub, 1) := by decide +kernel
theorem dX3_remove_16 : decode cX3_remove 16 = .ok (.putfield 25, 3) := by decide +kernel
theorem dX3_remove_19 : decode cX3_remove 19 = .ok (.iload_n 1, 1) := by decide +kernel
theorem dX3_remove_20 : decode cX3_remove 20 = .ok (.istore_n 2, 1) := by decide +kernel
theorem dX3_remove_21 : decode cX3_remove 21 = .ok (.iload_n 2, 1) := by decide +kernel
theorem dX3_remove_22 : decode cX3_remove 22 = .ok (.aload_n 0, 1) := by decide +kernel
theorem dX3_remove_23 : decode cX3_remove 23 = .ok (.getfield 25, 3) := by decide +kernel
theorem dX3_remove_26 : decode cX3_remove 26 = .ok (.if_icmp .ge 34, 3) := by decide +kernel
theorem dX3_remove_29 : decode cX3_remove 29 = .ok (.iload_n 2, 1) := by decide +kernel
theorem dX3_remove_30 : decode cX3_remove 30 = .ok (.iconst 1, 1) := by decide +kernel
theorem dX3_remove_31 : decode cX3_remove 31 = .ok (.iadd, 1) := by decide +kernel
theorem dX3_remove_32 : decode cX3_remove 32 = .ok (.aload_n 0, 1) := by decide +kernel
theorem dX3_remove_33 : decode cX3_remove 33 = .ok (.getfield 9, 3) := by decide +kernel
theorem dX3_remove_36 : decode cX3_remove 36 = .ok (.arraylength, 1) := by decide +kernel
theorem dX3_remove_37 : decode cX3_remove 37 = .ok (.if_icmp .ge 23, 3) := by decide +kernel
theorem dX3_remove_40 : decode cX3_remove 40 = .ok (.aload_n 0, 1) := by decide +kernel
theorem dX3_remove_41 : decode cX3_remove 41 = .ok (.getfield 9, 3) := by decide +kernel
theorem dX3_remove_44 : decode cX3_remove 44 = .ok (.iload_n 2, 1) := by decide +kernel
theorem dX3_remove_45 : decode cX3_remove 45 = .ok (.aload_n 0, 1) := by decide +kernel
theorem dX3_remove_46 : decode cX3_remove 46 = .ok (.getfield 9, 3) := by decide +kernel
theorem dX3_remove_49 : decode cX3_remove 49 = .ok (.iload_n 2, 1) := by decide +kernel
theorem dX3_remove_50 : decode cX3_remove 50 = .ok (.iconst 1, 1) := by decide +kernel
theorem dX3_remove_51 : decode cX3_remove 51 = .ok (.iadd, 1) := by decide +kernel
theorem dX3_remove_52 : decode cX3_remove 52 = .ok (.iaload, 1) := by decide +kernel
theorem dX3_remove_53 : decode cX3_remove 53 = .ok (.iastore, 1) := by decide +kernel
theorem dX3_remove_54 : decode cX3_remove 54 = .ok (.iinc 2 1, 3) := by decide +kernel
theorem dX3_remove_57 : decode cX3_remove 57 = .ok (.goto (-36), 3) := by decide +kernel
theorem dX3_remove_60 : decode cX3_remove 60 = .ok (.return_, 1) := by decide +kernel
set_option maxRecDepth 20000 in
theorem ggX3_swap_X3_isPlace : GoodIn wsX3_swap wsX3_isPlace := goodIn_r _ [6, 7, 1, 8, 9, 10, 11, 12] (by decide +kernel) (by decide +kernel)
set_option maxRecDepth 20000 in
theorem gX3_swap_X3_isPlace : GoodIn wsX3_swap (wsV RX3 34 RX3 yX3_isPlace wsX3_isPlace) := goodIn_app (goodIn_of _ (by decide +kernel)) ggX3_swap_X3_isPlace
theorem dX3_swap_0 : decode cX3_swap 0 = .ok (.aload_n 0, 1) := by decide +kernel
theorem dX3_swap_1 : decode cX3_swap 1 = .ok (.iload_n 1, 1) := by decide +kernel
theorem dX3_swap_2 : decode cX3_swap 2 = .ok (.invokevirtual 34, 3) := by decide +kernel
theorem dX3_swap_5 : decode cX3_swap 5 = .ok (.ifCond .eq 37, 3) := by decide +kernel
theorem dX3_swap_8 : decode cX3_swap 8 = .ok (.aload_n 0, 1) := by decide +kernel
theorem dX3_swap_9 : decode cX3_swap 9 = .ok (.iload_n 2, 1) := by decide +kernel
theorem dX3_swap_10 : decode cX3_swap 10 = .ok (.invokevirtual 34, 3) := by decide +kernel
theorem dX3_swap_13 : decode cX3_swap 13 = .ok (.ifCond .eq 29, 3) := by decide +kernel
theorem dX3_swap_16 : decode cX3_swap 16 = .ok (.aload_n 0, 1) := by decide +kernel
theorem dX3_swap_17 : decode cX3_swap 17 = .ok (.getfield 9, 3) := by decide +kernel
theorem dX3_swap_20 : decode cX3_swap 20 = .ok (.iload_n 1, 1) := by decide +kernel
theorem dX3_swap_21 : decode cX3_swap 21 = .ok (.iaload, 1) := by decide +kernel
theorem dX3_swap_22 : decode cX3_swap 22 = .ok (.istore_n 3, 1) := by decide +kernel
theorem dX3_swap_23 : decode cX3_swap 23 = .ok (.aload_n 0, 1) := by decide +kernel
theorem dX3_swap_24 : decode cX3_swap 24 = .ok (.getfield 9, 3) := by decide +kernel
theorem dX3_swap_27 : decode cX3_swap 27 = .ok (.iload_n 1, 1) := by decide +kernel
theorem dX3_swap_28 : decode cX3_swap 28 = .ok (.aload_n 0, 1) := by decide +kernel
theorem dX3_swap_29 : decode cX3_swap 29 = .ok (.getfield 9, 3) := by decide +kernel
theorem dX3_swap_32 : decode cX3_swap 32 = .ok (.iload_n 2, 1) := by decide +kernel
theorem dX3_swap_33 : decode cX3_swap 33 = .ok (.iaload, 1) := by decide +kernel
theorem dX3_swap_34 : decode cX3_swap 34 = .ok (.iastore, 1) := by decide +kernel
theorem dX3_swap_35 : decode cX3_swap 35 = .ok (.aload_n 0, 1) := by decide +kernel
theorem dX3_swap_36 : decode cX3_swap 36 = .ok (.getfield 9, 3) := by decide +kernel
theorem dX3_swap_39 : decode cX3_swap 39 = .ok (.iload_n 2, 1) := by decide +kernel
theorem dX3_swap_40 : decode cX3_swap 40 = .ok (.iload_n 3, 1) := by decide +kernel
theorem dX3_swap_41 : decode cX3_swap 41 = .ok (.iastore, 1) := by decide +kernel
theorem dX3_swap_42 : decode cX3_swap 42 = .ok (.return_, 1) := by decide +kernel
theorem dX3_waitAt_0 : decode cX3_waitAt 0 = .ok (.aload_n 0, 1) := by decide +kernel
theorem dX3_waitAt_1 : decode cX3_waitAt 1 = .ok (.getfield 15, 3) := by decide +kernel
theorem dX3_waitAt_4 : decode cX3_waitAt 4 = .ok (.iload_n 1, 1) := by decide +kernel
theorem dX3_waitAt_5 : decode cX3_waitAt 5 = .ok (.iconst 1, 1) := by decide +kernel
theorem dX3_waitAt_6 : decode cX3_waitAt 6 = .ok (.iadd, 1) := by decide +kernel
theorem dX3_waitAt_7 : decode cX3_waitAt 7 = .ok (.imul, 1) := by decide +kernel
theorem dX3_waitAt_8 : decode cX3_waitAt 8 = .ok (.aload_n 0, 1) := by decide +kernel
theorem dX3_waitAt_9 : decode cX3_waitAt 9 = .ok (.getfield 19, 3) := by decide +kernel
theorem dX3_waitAt_12 : decode cX3_waitAt 12 = .ok (.isub, 1) := by decide +kernel
theorem dX3_waitAt_13 : decode cX3_waitAt 13 = .ok (.ireturn, 1) := by decide +kernel
theorem dX3_waitOfAll_0 : decode cX3_waitOfAll 0 = .ok (.aload_n 0, 1) := by decide +kernel
theorem dX3_waitOfAll_1 : decode cX3_waitOfAll 1 = .ok (.getfield 15, 3) := by decide +kernel
theorem dX3_waitOfAll_4 : decode cX3_waitOfAll 4 = .ok (.iload_n 1, 1) := by decide +kernel
theorem dX3_waitOfAll_5 : decode cX3_waitOfAll 5 = .ok (.imul, 1) := by decide +kernel
theorem dX3_waitOfAll_6 : decode cX3_waitOfAll 6 = .ok (.iload_n 1, 1) := by decide +kernel
theorem dX3_waitOfAll_7 : decode cX3_waitOfAll 7 = .ok (.iconst 1, 1) := by decide +kernel
theorem dX3_waitOfAll_8 : decode cX3_waitOfAll 8 = .ok (.iadd, 1) := by decide +kernel
theorem dX3_waitOfAll_9 : decode cX3_waitOfAll 9 = .ok (.imul, 1) := by decide +kernel
theorem dX3_waitOfAll_10 : decode cX3_waitOfAll 10 = .ok (.iconst 2, 1) := by decide +kernel
theorem dX3_waitOfAll_11 : decode cX3_waitOfAll 11 = .ok (.idiv, 1) := by decide +kernel
theorem dX3_waitOfAll_12 : decode cX3_waitOfAll 12 = .ok (.aload_n 0, 1) := by decide +kernel
theorem dX3_waitOfAll_13 : decode cX3_waitOfAll 13 = .ok (.getfield 19, 3) := by decide +kernel
theorem dX3_waitOfAll_16 : decode cX3_waitOfAll 16 = .ok (.iload_n 1, 1) := by decide +kernel
theorem dX3_waitOfAll_17 : decode cX3_waitOfAll 17 = .ok (.imul, 1) := by decide +kernel
theorem dX3_waitOfAll_18 : decode cX3_waitOfAll 18 = .ok (.isub, 1) := by decide +kernel
theorem dX3_waitOfAll_19 : decode cX3_waitOfAll 19 = .ok (.ireturn, 1) := by decide +kernel
theorem dX4_init_0 : decode cX4_init 0 = .ok (.aload_n 0, 1) := by decide +kernel
theorem dX4_init_1 : decode cX4_init 1 = .ok (.invokespecial 3, 3) := by decide +kernel
theorem dX4_init_4 : decode cX4_init 4 = .ok (.aload_n 0, 1) := by decide +kernel
theorem dX4_init_5 : decode cX4_init 5 = .ok (.iconst (-1), 1) := by decide +kernel
theorem dX4_init_6 : decode cX4_init 6 = .ok (.putfield 9, 3) := by decide +kernel
theorem dX4_init_9 : decode cX4_init 9 = .ok (.aload_n 0, 1) := by decide +kernel
theorem dX4_init_10 : decode cX4_init 10 = .ok (.iconst 2, 1) := by decide +kernel
theorem dX4_init_11 : decode cX4_init 11 = .ok (.putfield 15, 3) := by decide +kernel
theorem dX4_init_14 : decode cX4_init 14 = .ok (.return_, 1) := by decide +kernel
theorem dX4_enter_0 : decode cX4_enter 0 = .ok (.aload_n 0, 1) := by decide +kernel
theorem dX4_enter_1 : decode cX4_enter 1 = .ok (.iload_n 1, 1) := by decide +kernel
theorem dX4_enter_2 : decode cX4_enter 2 = .ok (.putfield 18, 3) := by decide +kernel
theorem dX4_enter_5 : decode cX4_enter 5 = .ok (.aload_n 0, 1) := by decide +kernel
theorem dX4_enter_6 : decode cX4_enter 6 = .ok (.iload_n 2, 1) := by decide +kernel
theorem dX4_enter_7 : decode cX4_enter 7 = .ok (.putfield 9, 3) := by decide +kernel
theorem dX4_enter_10 : decode cX4_enter 10 = .ok (.aload_n 0, 1) := by decide +kernel
theorem dX4_enter_11 : decode cX4_enter 11 = .ok (.iconst 0, 1) := by decide +kernel
theorem dX4_enter_12 : decode cX4_enter 12 = .ok (.putfield 15, 3) := by decide +kernel
theorem dX4_enter_15 : decode cX4_enter 15 = .ok (.aload_n 0, 1) := by decide +kernel
theorem dX4_enter_16 : decode cX4_enter 16 = .ok (.iconst 0, 1) := by decide +kernel
theorem dX4_enter_17 : decode cX4_enter 17 = .ok (.putfield 21, 3) := by decide +kernel
theorem dX4_enter_20 : decode cX4_enter 20 = .ok (.aload_n 0, 1) := by decide +kernel
theorem dX4_enter_21 : decode cX4_enter 21 = .ok (.iconst 0, 1) := by decide +kernel
theorem dX4_enter_22 : decode cX4_enter 22 = .ok (.putfield 24, 3) := by decide +kernel
theorem dX4_enter_25 : decode cX4_enter 25 = .ok (.aload_n 0, 1) := by decide +kernel
theorem dX4_enter_26 : decode cX4_enter 26 = .ok (.iconst 0, 1) := by decide +kernel
theorem dX4_enter_27 : decode cX4_enter 27 = .ok (.putfield 27, 3) := by decide +kernel
theorem dX4_enter_30 : decode cX4_enter 30 = .ok (.aload_n 0, 1) := by decide +kernel
theorem dX4_enter_31 : decode cX4_enter 31 = .ok (.iload_n 3, 1) := by decide +kernel
theorem dX4_enter_32 : decode cX4_enter 32 = .ok (.putfield 30, 3) := by decide +kernel
theorem dX4_enter_35 : decode cX4_enter 35 = .ok (.aload_n 0, 1) := by decide +kernel
theorem dX4_enter_36 : decode cX4_enter 36 = .ok (.iconst 0, 1) := by decide +kernel
theorem dX4_enter_37 : decode cX4_enter 37 = .ok (.putfield 33, 3) := by decide +kernel
theorem dX4_enter_40 : decode cX4_enter 40 = .ok (.aload_n 0, 1) := by decide +kernel
theorem dX4_enter_41 : decode cX4_enter 41 = .ok (.iload_n 3, 1) := by decide +kernel
theorem dX4_enter_42 : decode cX4_enter 42 = .ok (.iconst 5, 1) := by decide +kernel
theorem dX4_enter_43 : decode cX4_enter 43 = .ok (.isub, 1) := by decide +kernel
theorem dX4_enter_44 : decode cX4_enter 44 = .ok (.putfield 36, 3) := by decide +kernel
theorem dX4_enter_47 : decode cX4_enter 47 = .ok (.return_, 1) := by decide +kernel
theorem dX4_end_0 : decode cX4_end 0 = .ok (.aload_n 0, 1) := by decide +kernel
theorem dX4_end_1 : decode cX4_end 1 = .ok (.iconst (-1), 1) := by decide +kernel
theorem dX4_end_2 : decode cX4_end 2 = .ok (.putfield 9, 3) := by decide +kernel
theorem dX4_end_5 : decode cX4_end 5 = .ok (.aload_n 0, 1) := by decide +kernel
theorem dX4_end_6 : decode cX4_end 6 = .ok (.iload_n 1, 1) := by decide +kernel
theorem dX4_end_7 : decode cX4_end 7 = .ok (.putfield 15, 3) := by decide +kernel
theorem dX4_end_10 : decode cX4_end 10 = .ok (.return_, 1) := by decide +kernel
theorem dX4_copyFrom_0 : decode cX4_copyFrom 0 = .ok (.aload_n 0, 1) := by decide +kernel
theorem dX4_copyFrom_1 : decode cX4_copyFrom 1 = .ok (.aload_n 1, 1) := by decide +kernel
theorem dX4_copyFrom_2 : decode cX4_copyFrom 2 = .ok (.getfield 18, 3) := by decide +kernel
theorem dX4_copyFrom_5 : decode cX4_copyFrom 5 = .ok (.putfield 18, 3) := by decide +kernel
theorem dX4_copyFrom_8 : decode cX4_copyFrom 8 = .ok (.aload_n 0, 1) := by decide +kernel
theorem dX4_copyFrom_9 : decode cX4_copyFrom 9 = .ok (.aload_n 1, 1) := by decide +kernel
theorem dX4_copyFrom_10 : decode cX4_copyFrom 10 = .ok (.getfield 9, 3) := by decide +kernel
theorem dX4_copyFrom_13 : decode cX4_copyFrom 13 = .ok (.putfield 9, 3) := by decide +kernel
theorem dX4_copyFrom_16 : decode cX4_copyFrom 16 = .ok (.aload_n 0, 1) := by decide +kernel
theorem dX4_copyFrom_17 : decode cX4_copyFrom 17 = .ok (.aload_n 1, 1) := by decide +kernel
theorem dX4_copyFrom_18 : decode cX4_copyFrom 18 = .ok (.getfield 15, 3) := by decide +kernel
theorem dX4_copyFrom_21 : decode cX4_copyFrom 21 = .ok (.putfield 15, 3) := by decide +kernel
theorem dX4_copyFrom_24 : decode cX4_copyFrom 24 = .ok (.aload_n 0, 1) := by decide +kernel
theorem dX4_copyFrom_25 : decode cX4_copyFrom 25 = .ok (.aload_n 1, 1) := by decide +kernel
theorem dX4_copyFrom_26 : decode cX4_copyFrom 26 = .ok (.getfield 21, 3) := by decide +kernel
theorem dX4_copyFrom_29 : decode cX4_copyFrom 29 = .ok (.putfield 21, 3) := by decide +kernel
theorem dX4_copyFrom_32 : decode cX4_copyFrom 32 = .ok (.aload_n 0, 1) := by decide +kernel
theorem dX4_copyFrom_33 : decode cX4_copyFrom 33 = .ok (.aload_n 1, 1) := by decide +kernel
theorem dX4_copyFrom_34 : decode cX4_copyFrom 34 = .ok (.getfield 24, 3) := by decide +kernel
theorem dX4_copyFrom_37 : decode cX4_copyFrom 37 = .ok (.putfield 24, 3) := by decide +kernel
theorem dX4_copyFrom_40 : decode cX4_copyFrom 40 = .ok (.aload_n 0, 1) := by decide +kernel
theorem dX4_copyFrom_41 : decode cX4_copyFrom 41 = .ok (.aload_n 1, 1) := by decide +kernel
theorem dX4_copyFrom_42 : decode cX4_copyFrom 42 = .ok (.getfield 27, 3) := by decide +kernel
theorem dX4_copyFrom_45 : decode cX4_copyFrom 45 = .ok (.putfield 27, 3) := by decide +kernel
theorem dX4_copyFrom_48 : decode cX4_copyFrom 48 = .ok (.aload_n 0, 1) := by decide +kernel
theorem dX4_copyFrom_49 : decode cX4_copyFrom 49 = .ok (.aload_n 1, 1) := by decide +kernel
theorem dX4_copyFrom_50 : decode cX4_copyFrom 50 = .ok (.getfield 30, 3) := by decide +kernel
theorem dX4_copyFrom_53 : decode cX4_copyFrom 53 = .ok (.putfield 30, 3) := by decide +kernel
theorem dX4_copyFrom_56 : decode cX4_copyFrom 56 = .ok (.aload_n 0, 1) := by decide +kernel
theorem dX4_copyFrom_57 : decode cX4_copyFrom 57 = .ok (.aload_n 1, 1) := by decide +kernel
theorem dX4_copyFrom_58 : decode cX4_copyFrom 58 = .ok (.getfield 33, 3) := by decide +kernel
theorem dX4_copyFrom_61 : decode cX4_copyFrom 61 = .ok (.putfield 33, 3) := by decide +kernel
theorem dX4_copyFrom_64 : decode cX4_copyFrom 64 = .ok (.aload_n 0, 1) := by decide +kernel
theorem dX4_copyFrom_65 : decode cX4_copyFrom 65 = .ok (.aload_n 1, 1) := by decide +kernel
theorem dX4_copyFrom_66 : decode cX4_copyFrom 66 = .ok (.getfield 36, 3) := by decide +kernel
theorem dX4_copyFrom_69 : decode cX4_copyFrom 69 = .ok (.putfield 36, 3) := by decide +kernel
theorem dX4_copyFrom_72 : decode cX4_copyFrom 72 = .ok (.return_, 1) := by decide +kernel
set_option maxRecDepth 20000 in
theorem ggX5_init_X1_init : GoodIn wsX5_init wsX1_init := goodIn_r _ [22, 23, 2, 3, 24, 25, 26, 27, 28, 29, 30, 31, 32, 33, 34, 35, 36, 37, 38, 39, 40, 41, 42, 43, 44, 90, 91, 92, 93, 94, 95, 96, 97, 98, 99, 100, 113, 114, 115, 116, 117, 118, 119, 120, 121, 122, 123, 124, 125, 126] (by decide +kernel) (by decide +kernel)
set_option maxRecDepth 20000 in
theorem gX5_init_X1_init : GoodIn wsX5_init (wsX1_init) := ggX5_init_X1_init
set_option maxRecDepth 20000 in
theorem ggX5_init_X1_beginAnew : GoodIn wsX5_init wsX1_beginAnew := goodIn_r _ [48, 49, 50, 51, 52, 53, 54, 25, 55, 56, 57, 58, 90, 91, 92, 93, 94, 95, 96, 97, 98, 99, 100] (by decide +kernel) (by decide +kernel)
set_option maxRecDepth 20000 in
theorem gX5_init_X1_beginAnew : GoodIn wsX5_init (wsV RX5 16 RX1 yX1_beginAnew wsX1_beginAnew) := goodIn_app (goodIn_of _ (by decide +kernel)) ggX5_init_X1_beginAnew
set_option maxRecDepth 20000 in
theorem ggX5_init_X1_addLine : GoodIn wsX5_init wsX1_addLine := goodIn_r _ [62, 49, 63, 64, 65, 6, 66, 67, 68, 69, 70, 27, 32, 71, 72, 73, 31, 74, 75, 76, 77, 78, 90, 91, 92, 93, 94, 95, 96, 97, 98, 99, 100, 113, 114, 115, 116, 117] (by decide +kernel) (by decide +kernel)
set_option maxRecDepth 20000 in
theorem gX5_init_X1_addLine : GoodIn wsX5_init (wsV RX5 19 RX1 yX1_addLine wsX1_addLine) := goodIn_app (goodIn_of _ (by decide +kernel)) ggX5_init_X1_addLine
set_option maxRecDepth 20000 in
theorem ggX5_init_X2_init : GoodIn wsX5_init wsX2_init := goodIn_r _ [81, 82, 2, 3, 83, 84, 5, 6, 85, 21, 22, 23, 24, 25, 26, 27, 28, 29, 30, 31, 32, 33, 34, 35, 36, 37, 38, 39, 40, 41, 42, 43, 44, 107, 108, 109, 90, 91, 92, 93, 94, 95, 96, 97, 98, 99, 100, 113, 114, 115, 116, 117, 118, 119, 120, 121, 122, 123, 124, 125, 126] (by decide +kernel) (by decide +kernel)
set_option maxRecDepth 20000 in
theorem gX5_init_X2_init : GoodIn wsX5_init (wsX2_init) := ggX5_init_X2_init
set_option maxRecDepth 20000 in
theorem ggX5_init_X0_init : GoodIn wsX5_init wsX0_init := goodIn_r _ [87, 88, 2, 3, 24, 89, 110, 111, 112] (by decide +kernel) (by decide +kernel)
set_option maxRecDepth 20000 in
theorem gX5_init_X0_init_n43 : GoodIn wsX5_init (wsX0_init) := ggX5_init_X0_init
