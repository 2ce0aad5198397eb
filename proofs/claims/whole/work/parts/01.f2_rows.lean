theorem dX6_come_0 : decode cX6_come 0 = .ok (.aload_n 0, 1) := by decide +kernel
theorem dX6_come_1 : decode cX6_come 1 = .ok (.aload_n 0, 1) := by decide +kernel
theorem dX6_come_2 : decode cX6_come 2 = .ok (.iload_n 1, 1) := by decide +kernel
theorem dX6_come_3 : decode cX6_come 3 = .ok (.iload_n 2, 1) := by decide +kernel
theorem dX6_come_4 : decode cX6_come 4 = .ok (.invokevirtual 109, 3) := by decide +kernel
theorem dX6_come_7 : decode cX6_come 7 = .ok (.invokevirtual 87, 3) := by decide +kernel
theorem dX6_come_10 : decode cX6_come 10 = .ok (.ifCond .ne 5, 3) := by decide +kernel
theorem dX6_come_13 : decode cX6_come 13 = .ok (.iconst 0, 1) := by decide +kernel
theorem dX6_come_14 : decode cX6_come 14 = .ok (.ireturn, 1) := by decide +kernel
theorem dX6_come_15 : decode cX6_come 15 = .ok (.aload_n 0, 1) := by decide +kernel
theorem dX6_come_16 : decode cX6_come 16 = .ok (.invokevirtual 155, 3) := by decide +kernel
theorem dX6_come_19 : decode cX6_come 19 = .ok (.aload_n 0, 1) := by decide +kernel
theorem dX6_come_20 : decode cX6_come 20 = .ok (.iload_n 1, 1) := by decide +kernel
theorem dX6_come_21 : decode cX6_come 21 = .ok (.iload_n 2, 1) := by decide +kernel
theorem dX6_come_22 : decode cX6_come 22 = .ok (.invokevirtual 121, 3) := by decide +kernel
theorem dX6_come_25 : decode cX6_come 25 = .ok (.ireturn, 1) := by decide +kernel
set_option maxRecDepth 20000 in
theorem ggX6_go_X6_goFault : GoodIn wsX6_go wsX6_goFault := goodIn_r _ [5, 6, 7, 8, 4, 9, 10, 11, 12, 13, 14, 15, 16, 17, 18, 19, 20, 44, 45, 46, 47, 48, 49, 50, 51, 52, 53, 54, 55, 56] (by decide +kernel) (by decide +kernel)
set_option maxRecDepth 20000 in
theorem gX6_go_X6_goFault : GoodIn wsX6_go (wsV RX6 112 RX6 yX6_goFault wsX6_goFault) := goodIn_app (goodIn_of _ (by decide +kernel)) ggX6_go_X6_goFault
set_option maxRecDepth 20000 in
theorem ggX6_go_X6_holds : GoodIn wsX6_go wsX6_holds := goodIn_r _ [24, 25, 44, 45, 46, 47, 48, 49, 50, 51, 52, 53, 54, 55, 56] (by decide +kernel) (by decide +kernel)
set_option maxRecDepth 20000 in
theorem gX6_go_X6_holds : GoodIn wsX6_go (wsV RX6 87 RX6 yX6_holds wsX6_holds) := goodIn_app (goodIn_of _ (by decide +kernel)) ggX6_go_X6_holds
set_option maxRecDepth 20000 in
theorem ggX6_go_X6_remember : GoodIn wsX6_go wsX6_remember := goodIn_r _ [29, 30, 31, 10, 44, 45, 46, 47, 48, 49, 50, 51, 52, 53, 54, 55, 56] (by decide +kernel) (by decide +kernel)
set_option maxRecDepth 20000 in
theorem gX6_go_X6_remember : GoodIn wsX6_go (wsV RX6 155 RX6 yX6_remember wsX6_remember) := goodIn_app (goodIn_of _ (by decide +kernel)) ggX6_go_X6_remember
set_option maxRecDepth 20000 in
theorem ggX6_go_X6_goes : GoodIn wsX6_go wsX6_goes := goodIn_r _ [35, 10, 18, 19, 4, 20, 36, 37, 38, 39, 40, 41, 42, 43, 44, 45, 46, 47, 48, 49, 50, 51, 52, 53, 54, 55, 56] (by decide +kernel) (by decide +kernel)
set_option maxRecDepth 20000 in
theorem gX6_go_X6_goes : GoodIn wsX6_go (wsV RX6 124 RX6 yX6_goes wsX6_goes) := goodIn_app (goodIn_of _ (by decide +kernel)) ggX6_go_X6_goes
theorem dX6_go_0 : decode cX6_go 0 = .ok (.aload_n 0, 1) := by decide +kernel
theorem dX6_go_1 : decode cX6_go 1 = .ok (.aload_n 0, 1) := by decide +kernel
theorem dX6_go_2 : decode cX6_go 2 = .ok (.iload_n 1, 1) := by decide +kernel
theorem dX6_go_3 : decode cX6_go 3 = .ok (.invokevirtual 112, 3) := by decide +kernel
theorem dX6_go_6 : decode cX6_go 6 = .ok (.invokevirtual 87, 3) := by decide +kernel
theorem dX6_go_9 : decode cX6_go 9 = .ok (.ifCond .ne 5, 3) := by decide +kernel
theorem dX6_go_12 : decode cX6_go 12 = .ok (.iconst 0, 1) := by decide +kernel
theorem dX6_go_13 : decode cX6_go 13 = .ok (.ireturn, 1) := by decide +kernel
theorem dX6_go_14 : decode cX6_go 14 = .ok (.aload_n 0, 1) := by decide +kernel
theorem dX6_go_15 : decode cX6_go 15 = .ok (.invokevirtual 155, 3) := by decide +kernel
theorem dX6_go_18 : decode cX6_go 18 = .ok (.aload_n 0, 1) := by decide +kernel
theorem dX6_go_19 : decode cX6_go 19 = .ok (.iload_n 1, 1) := by decide +kernel
theorem dX6_go_20 : decode cX6_go 20 = .ok (.invokevirtual 124, 3) := by decide +kernel
theorem dX6_go_23 : decode cX6_go 23 = .ok (.ireturn, 1) := by decide +kernel
set_option maxRecDepth 20000 in
theorem ggX6_exchange_X6_exchangeFault : GoodIn wsX6_exchange wsX6_exchangeFault := goodIn_r _ [5, 6, 7, 8, 9, 4, 10, 11, 12, 13, 14, 15, 16, 17, 18, 19, 20, 21, 22, 23, 24, 40, 41, 42, 43, 44, 45, 46, 47, 48, 49, 50, 51, 52] (by decide +kernel) (by decide +kernel)
set_option maxRecDepth 20000 in
theorem gX6_exchange_X6_exchangeFault : GoodIn wsX6_exchange (wsV RX6 115 RX6 yX6_exchangeFault wsX6_exchangeFault) := goodIn_app (goodIn_of _ (by decide +kernel)) ggX6_exchange_X6_exchangeFault
set_option maxRecDepth 20000 in
theorem ggX6_exchange_X6_holds : GoodIn wsX6_exchange wsX6_holds := goodIn_r _ [28, 29, 40, 41, 42, 43, 44, 45, 46, 47, 48, 49, 50, 51, 52] (by decide +kernel) (by decide +kernel)
set_option maxRecDepth 20000 in
theorem gX6_exchange_X6_holds : GoodIn wsX6_exchange (wsV RX6 87 RX6 yX6_holds wsX6_holds) := goodIn_app (goodIn_of _ (by decide +kernel)) ggX6_exchange_X6_holds
set_option maxRecDepth 20000 in
theorem ggX6_exchange_X6_remember : GoodIn wsX6_exchange wsX6_remember := goodIn_r _ [33, 34, 35, 6, 40, 41, 42, 43, 44, 45, 46, 47, 48, 49, 50, 51, 52] (by decide +kernel) (by decide +kernel)
set_option maxRecDepth 20000 in
theorem gX6_exchange_X6_remember : GoodIn wsX6_exchange (wsV RX6 155 RX6 yX6_remember wsX6_remember) := goodIn_app (goodIn_of _ (by decide +kernel)) ggX6_exchange_X6_remember
set_option maxRecDepth 20000 in
theorem ggX6_exchange_X6_exchanges : GoodIn wsX6_exchange wsX6_exchanges := goodIn_r _ [39, 6, 18, 19, 4, 20, 21, 22, 23, 24, 40, 41, 42, 43, 44, 45, 46, 47, 48, 49, 50, 51, 52] (by decide +kernel) (by decide +kernel)
set_option maxRecDepth 20000 in
theorem gX6_exchange_X6_exchanges : GoodIn wsX6_exchange (wsV RX6 127 RX6 yX6_exchanges wsX6_exchanges) := goodIn_app (goodIn_of _ (by decide +kernel)) ggX6_exchange_X6_exchanges
theorem dX6_exchange_0 : decode cX6_exchange 0 = .ok (.aload_n 0, 1) := by decide +kernel
theorem dX6_exchange_1 : decode cX6_exchange 1 = .ok (.aload_n 0, 1) := by decide +kernel
theorem dX6_exchange_2 : decode cX6_exchange 2 = .ok (.iload_n 1, 1) := by decide +kernel
theorem dX6_exchange_3 : decode cX6_exchange 3 = .ok (.iload_n 2, 1) := by decide +kernel
theorem dX6_exchange_4 : decode cX6_exchange 4 = .ok (.invokevirtual 115, 3) := by decide +kernel
theorem dX6_exchange_7 : decode cX6_exchange 7 = .ok (.invokevirtual 87, 3) := by decide +kernel
theorem dX6_exchange_10 : decode cX6_exchange 10 = .ok (.ifCond .ne 5, 3) := by decide +kernel
theorem dX6_exchange_13 : decode cX6_exchange 13 = .ok (.iconst 0, 1) := by decide +kernel
theorem dX6_exchange_14 : decode cX6_exchange 14 = .ok (.ireturn, 1) := by decide +kernel
theorem dX6_exchange_15 : decode cX6_exchange 15 = .ok (.aload_n 0, 1) := by decide +kernel
theorem dX6_exchange_16 : decode cX6_exchange 16 = .ok (.invokevirtual 155, 3) := by decide +kernel
theorem dX6_exchange_19 : decode cX6_exchange 19 = .ok (.aload_n 0, 1) := by decide +kernel
theorem dX6_exchange_20 : decode cX6_exchange 20 = .ok (.iload_n 1, 1) := by decide +kernel
theorem dX6_exchange_21 : decode cX6_exchange 21 = .ok (.iload_n 2, 1) := by decide +kernel
theorem dX6_exchange_22 : decode cX6_exchange 22 = .ok (.invokevirtual 127, 3) := by decide +kernel
theorem dX6_exchange_25 : decode cX6_exchange 25 = .ok (.ireturn, 1) := by decide +kernel
set_option maxRecDepth 20000 in
theorem ggX6_jump_X6_jumpFault : GoodIn wsX6_jump wsX6_jumpFault := goodIn_r _ [5, 6, 7, 8, 9, 4, 10, 11, 12, 13, 14, 15, 16, 17, 18, 19, 20, 21, 22, 23, 24, 40, 41, 42, 43, 44, 45, 46, 47, 48, 49, 50, 51, 52] (by decide +kernel) (by decide +kernel)
set_option maxRecDepth 20000 in
theorem gX6_jump_X6_jumpFault : GoodIn wsX6_jump (wsV RX6 118 RX6 yX6_jumpFault wsX6_jumpFault) := goodIn_app (goodIn_of _ (by decide +kernel)) ggX6_jump_X6_jumpFault
set_option maxRecDepth 20000 in
theorem ggX6_jump_X6_holds : GoodIn wsX6_jump wsX6_holds := goodIn_r _ [28, 29, 40, 41, 42, 43, 44, 45, 46, 47, 48, 49, 50, 51, 52] (by decide +kernel) (by decide +kernel)
set_option maxRecDepth 20000 in
theorem gX6_jump_X6_holds : GoodIn wsX6_jump (wsV RX6 87 RX6 yX6_holds wsX6_holds) := goodIn_app (goodIn_of _ (by decide +kernel)) ggX6_jump_X6_holds
set_option maxRecDepth 20000 in
theorem ggX6_jump_X6_remember : GoodIn wsX6_jump wsX6_remember := goodIn_r _ [33, 34, 35, 6, 40, 41, 42, 43, 44, 45, 46, 47, 48, 49, 50, 51, 52] (by decide +kernel) (by decide +kernel)
set_option maxRecDepth 20000 in
theorem gX6_jump_X6_remember : GoodIn wsX6_jump (wsV RX6 155 RX6 yX6_remember wsX6_remember) := goodIn_app (goodIn_of _ (by decide +kernel)) ggX6_jump_X6_remember
set_option maxRecDepth 20000 in
theorem ggX6_jump_X6_jumps : GoodIn wsX6_jump wsX6_jumps := goodIn_r _ [39, 6, 18, 19, 4, 20, 21, 22, 23, 24, 40, 41, 42, 43, 44, 45, 46, 47, 48, 49, 50, 51, 52] (by decide +kernel) (by decide +kernel)
set_option maxRecDepth 20000 in
theorem gX6_jump_X6_jumps : GoodIn wsX6_jump (wsV RX6 130 RX6 yX6_jumps wsX6_jumps) := goodIn_app (goodIn_of _ (by decide +kernel)) ggX6_jump_X6_jumps
theorem dX6_jump_0 : decode cX6_jump 0 = .ok (.aload_n 0, 1) := by decide +kernel
theorem dX6_jump_1 : decode cX6_jump 1 = .ok (.aload_n 0, 1) := by decide +kernel
theorem dX6_jump_2 : decode cX6_jump 2 = .ok (.iload_n 1, 1) := by decide +kernel
theorem dX6_jump_3 : decode cX6_jump 3 = .ok (.invokevirtual 118, 3) := by decide +kernel
theorem dX6_jump_6 : decode cX6_jump 6 = .ok (.invokevirtual 87, 3) := by decide +kernel
theorem dX6_jump_9 : decode cX6_jump 9 = .ok (.ifCond .ne 5, 3) := by decide +kernel
theorem dX6_jump_12 : decode cX6_jump 12 = .ok (.iconst 0, 1) := by decide +kernel
theorem dX6_jump_13 : decode cX6_jump 13 = .ok (.ireturn, 1) := by decide +kernel
theorem dX6_jump_14 : decode cX6_jump 14 = .ok (.aload_n 0, 1) := by decide +kernel
theorem dX6_jump_15 : decode cX6_jump 15 = .ok (.invokevirtual 155, 3) := by decide +kernel
theorem dX6_jump_18 : decode cX6_jump 18 = .ok (.aload_n 0, 1) := by decide +kernel
theorem dX6_jump_19 : decode cX6_jump 19 = .ok (.iload_n 1, 1) := by decide +kernel
theorem dX6_jump_20 : decode cX6_jump 20 = .ok (.invokevirtual 130, 3) := by decide +kernel
theorem dX6_jump_23 : decode cX6_jump 23 = .ok (.ireturn, 1) := by decide +kernel
set_option maxRecDepth 20000 in
theorem ggX6_merge_X6_mergeFault : GoodIn wsX6_merge wsX6_mergeFault := goodIn_r _ [5, 6, 7, 8, 9, 4, 10, 11, 12, 13, 36, 37, 38, 39, 40, 41, 42, 43, 44, 45, 46, 47, 48] (by decide +kernel) (by decide +kernel)
set_option maxRecDepth 20000 in
theorem gX6_merge_X6_mergeFault : GoodIn wsX6_merge (wsV RX6 158 RX6 yX6_mergeFault wsX6_mergeFault) := goodIn_app (goodIn_of _ (by decide +kernel)) ggX6_merge_X6_mergeFault
set_option maxRecDepth 20000 in
theorem ggX6_merge_X6_holds : GoodIn wsX6_merge wsX6_holds := goodIn_r _ [17, 18, 36, 37, 38, 39, 40, 41, 42, 43, 44, 45, 46, 47, 48] (by decide +kernel) (by decide +kernel)
set_option maxRecDepth 20000 in
theorem gX6_merge_X6_holds : GoodIn wsX6_merge (wsV RX6 87 RX6 yX6_holds wsX6_holds) := goodIn_app (goodIn_of _ (by decide +kernel)) ggX6_merge_X6_holds
set_option maxRecDepth 20000 in
theorem ggX6_merge_X6_remember : GoodIn wsX6_merge wsX6_remember := goodIn_r _ [22, 23, 24, 6, 36, 37, 38, 39, 40, 41, 42, 43, 44, 45, 46, 47, 48] (by decide +kernel) (by decide +kernel)
set_option maxRecDepth 20000 in
theorem gX6_merge_X6_remember : GoodIn wsX6_merge (wsV RX6 155 RX6 yX6_remember wsX6_remember) := goodIn_app (goodIn_of _ (by decide +kernel)) ggX6_merge_X6_remember
set_option maxRecDepth 20000 in
theorem ggX6_merge_X6_merges : GoodIn wsX6_merge wsX6_merges := goodIn_r _ [28, 6, 29, 30, 4, 31, 32, 33, 34, 35, 36, 37, 38, 39, 40, 41, 42, 43, 44, 45, 46, 47, 48] (by decide +kernel) (by decide +kernel)
set_option maxRecDepth 20000 in
theorem gX6_merge_X6_merges : GoodIn wsX6_merge (wsV RX6 161 RX6 yX6_merges wsX6_merges) := goodIn_app (goodIn_of _ (by decide +kernel)) ggX6_merge_X6_merges
theorem dX6_merge_0 : decode cX6_merge 0 = .ok (.aload_n 0, 1) := by decide +kernel
theorem dX6_merge_1 : decode cX6_merge 1 = .ok (.aload_n 0, 1) := by decide +kernel
theorem dX6_merge_2 : decode cX6_merge 2 = .ok (.iload_n 1, 1) := by decide +kernel
theorem dX6_merge_3 : decode cX6_merge 3 = .ok (.iload_n 2, 1) := by decide +kernel
theorem dX6_merge_4 : decode cX6_merge 4 = .ok (.invokevirtual 158, 3) := by decide +kernel
theorem dX6_merge_7 : decode cX6_merge 7 = .ok (.invokevirtual 87, 3) := by decide +kernel
theorem dX6_merge_10 : decode cX6_merge 10 = .ok (.ifCond .ne 5, 3) := by decide +kernel
theorem dX6_merge_13 : decode cX6_merge 13 = .ok (.iconst 0, 1) := by decide +kernel
theorem dX6_merge_14 : decode cX6_merge 14 = .ok (.ireturn, 1) := by decide +kernel
theorem dX6_merge_15 : decode cX6_merge 15 = .ok (.aload_n 0, 1) := by decide +kernel
theorem dX6_merge_16 : decode cX6_merge 16 = .ok (.invokevirtual 155, 3) := by decide +kernel
theorem dX6_merge_19 : decode cX6_merge 19 = .ok (.aload_n 0, 1) := by decide +kernel
theorem dX6_merge_20 : decode cX6_merge 20 = .ok (.iload_n 1, 1) := by decide +kernel
theorem dX6_merge_21 : decode cX6_merge 21 = .ok (.iload_n 2, 1) := by decide +kernel
theorem dX6_merge_22 : decode cX6_merge 22 = .ok (.invokevirtual 161, 3) := by decide +kernel
theorem dX6_merge_25 : decode cX6_merge 25 = .ok (.ireturn, 1) := by decide +kernel
set_option maxRecDepth 20000 in
theorem ggX6_minutes_X6_in : GoodIn wsX6_minutes wsX6_in := goodIn_r _ [4] (by decide +kernel) (by decide +kernel)
set_option maxRecDepth 20000 in
theorem gX6_minutes_X6_in : GoodIn wsX6_minutes (va_wsS RX6 47 yX6_in wsX6_in) := goodIn_app (goodIn_of _ (by decide +kernel)) ggX6_minutes_X6_in
set_option maxRecDepth 20000 in
theorem ggX6_minutes_X6_holds : GoodIn wsX6_minutes wsX6_holds := goodIn_r _ [8, 9, 40, 41, 42, 43, 44, 45, 46, 47, 48, 49, 50, 51, 52] (by decide +kernel) (by decide +kernel)
set_option maxRecDepth 20000 in
theorem gX6_minutes_X6_holds : GoodIn wsX6_minutes (wsV RX6 87 RX6 yX6_holds wsX6_holds) := goodIn_app (goodIn_of _ (by decide +kernel)) ggX6_minutes_X6_holds
set_option maxRecDepth 20000 in
theorem ggX6_minutes_X6_remember : GoodIn wsX6_minutes wsX6_remember := goodIn_r _ [13, 14, 15, 16, 40, 41, 42, 43, 44, 45, 46, 47, 48, 49, 50, 51, 52] (by decide +kernel) (by decide +kernel)
set_option maxRecDepth 20000 in
theorem gX6_minutes_X6_remember : GoodIn wsX6_minutes (wsV RX6 155 RX6 yX6_remember wsX6_remember) := goodIn_app (goodIn_of _ (by decide +kernel)) ggX6_minutes_X6_remember
set_option maxRecDepth 20000 in
theorem ggX6_minutes_X6_goBy : GoodIn wsX6_minutes wsX6_goBy := goodIn_r _ [20, 21, 22, 23, 3, 24, 16, 25, 26, 27, 28, 29, 30, 31, 32, 33, 34, 35, 36, 37, 38, 39, 40, 41, 42, 43, 44, 45, 46, 47, 48, 49, 50, 51, 52] (by decide +kernel) (by decide +kernel)
set_option maxRecDepth 20000 in
theorem gX6_minutes_X6_goBy : GoodIn wsX6_minutes (wsV RX6 133 RX6 yX6_goBy wsX6_goBy) := goodIn_app (goodIn_of _ (by decide +kernel)) ggX6_minutes_X6_goBy
theorem dX6_minutes_0 : decode cX6_minutes 0 = .ok (.aload_n 0, 1) := by decide +kernel
theorem dX6_minutes_1 : decode cX6_minutes 1 = .ok (.iload_n 1, 1) := by decide +kernel
theorem dX6_minutes_2 : decode cX6_minutes 2 = .ok (.iconst 1, 1) := by decide +kernel
theorem dX6_minutes_3 : decode cX6_minutes 3 = .ok (.bipush 60, 2) := by decide +kernel
theorem dX6_minutes_5 : decode cX6_minutes 5 = .ok (.invokestatic 47, 3) := by decide +kernel
theorem dX6_minutes_8 : decode cX6_minutes 8 = .ok (.ifCond .eq 7, 3) := by decide +kernel
theorem dX6_minutes_11 : decode cX6_minutes 11 = .ok (.iconst 0, 1) := by decide +kernel
theorem dX6_minutes_12 : decode cX6_minutes 12 = .ok (.goto 4, 3) := by decide +kernel
theorem dX6_minutes_15 : decode cX6_minutes 15 = .ok (.iconst 1, 1) := by decide +kernel
theorem dX6_minutes_16 : decode cX6_minutes 16 = .ok (.invokevirtual 87, 3) := by decide +kernel
theorem dX6_minutes_19 : decode cX6_minutes 19 = .ok (.ifCond .ne 5, 3) := by decide +kernel
theorem dX6_minutes_22 : decode cX6_minutes 22 = .ok (.iconst 0, 1) := by decide +kernel
theorem dX6_minutes_23 : decode cX6_minutes 23 = .ok (.ireturn, 1) := by decide +kernel
theorem dX6_minutes_24 : decode cX6_minutes 24 = .ok (.aload_n 0, 1) := by decide +kernel
theorem dX6_minutes_25 : decode cX6_minutes 25 = .ok (.invokevirtual 155, 3) := by decide +kernel
theorem dX6_minutes_28 : decode cX6_minutes 28 = .ok (.aload_n 0, 1) := by decide +kernel
theorem dX6_minutes_29 : decode cX6_minutes 29 = .ok (.iload_n 1, 1) := by decide +kernel
theorem dX6_minutes_30 : decode cX6_minutes 30 = .ok (.invokevirtual 133, 3) := by decide +kernel
theorem dX6_minutes_33 : decode cX6_minutes 33 = .ok (.ireturn, 1) := by decide +kernel
set_option maxRecDepth 20000 in
theorem ggX6_isSetting_X6_in : GoodIn wsX6_isSetting wsX6_in := goodIn_r _ [4] (by decide +kernel) (by decide +kernel)
set_option maxRecDepth 20000 in
theorem gX6_isSetting_X6_in : GoodIn wsX6_isSetting (va_wsS RX6 47 yX6_in wsX6_in) := goodIn_app (goodIn_of _ (by decide +kernel)) ggX6_isSetting_X6_in
theorem dX6_isSetting_0 : decode cX6_isSetting 0 = .ok (.iload_n 0, 1) := by decide +kernel
theorem dX6_isSetting_1 : decode cX6_isSetting 1 = .ok (.tableswitch 63 0 3 #[31, 40, 48, 56], 31) := by decide +kernel
theorem dX6_isSetting_32 : decode cX6_isSetting 32 = .ok (.iload_n 1, 1) := by decide +kernel
theorem dX6_isSetting_33 : decode cX6_isSetting 33 = .ok (.bipush 10, 2) := by decide +kernel
theorem dX6_isSetting_35 : decode cX6_isSetting 35 = .ok (.bipush 99, 2) := by decide +kernel
theorem dX6_isSetting_37 : decode cX6_isSetting 37 = .ok (.invokestatic 47, 3) := by decide +kernel
theorem dX6_isSetting_40 : decode cX6_isSetting 40 = .ok (.ireturn, 1) := by decide +kernel
theorem dX6_isSetting_41 : decode cX6_isSetting 41 = .ok (.iload_n 1, 1) := by decide +kernel
theorem dX6_isSetting_42 : decode cX6_isSetting 42 = .ok (.iconst 0, 1) := by decide +kernel
theorem dX6_isSetting_43 : decode cX6_isSetting 43 = .ok (.bipush 50, 2) := by decide +kernel
theorem dX6_isSetting_45 : decode cX6_isSetting 45 = .ok (.invokestatic 47, 3) := by decide +kernel
theorem dX6_isSetting_48 : decode cX6_isSetting 48 = .ok (.ireturn, 1) := by decide +kernel
theorem dX6_isSetting_49 : decode cX6_isSetting 49 = .ok (.iload_n 1, 1) := by decide +kernel
theorem dX6_isSetting_50 : decode cX6_isSetting 50 = .ok (.iconst 1, 1) := by decide +kernel
theorem dX6_isSetting_51 : decode cX6_isSetting 51 = .ok (.bipush 9, 2) := by decide +kernel
theorem dX6_isSetting_53 : decode cX6_isSetting 53 = .ok (.invokestatic 47, 3) := by decide +kernel
theorem dX6_isSetting_56 : decode cX6_isSetting 56 = .ok (.ireturn, 1) := by decide +kernel
theorem dX6_isSetting_57 : decode cX6_isSetting 57 = .ok (.iload_n 1, 1) := by decide +kernel
theorem dX6_isSetting_58 : decode cX6_isSetting 58 = .ok (.iconst 1, 1) := by decide +kernel
theorem dX6_isSetting_59 : decode cX6_isSetting 59 = .ok (.iconst 5, 1) := by decide +kernel
theorem dX6_isSetting_60 : decode cX6_isSetting 60 = .ok (.invokestatic 47, 3) := by decide +kernel
theorem dX6_isSetting_63 : decode cX6_isSetting 63 = .ok (.ireturn, 1) := by decide +kernel
theorem dX6_isSetting_64 : decode cX6_isSetting 64 = .ok (.iconst 0, 1) := by decide +kernel
theorem dX6_isSetting_65 : decode cX6_isSetting 65 = .ok (.ireturn, 1) := by decide +kernel
set_option maxRecDepth 20000 in
theorem ggX6_set_X6_isSetting : GoodIn wsX6_set wsX6_isSetting := goodIn_r _ [5, 6, 7, 4, 8] (by decide +kernel) (by decide +kernel)
set_option maxRecDepth 20000 in
theorem gX6_set_X6_isSetting : GoodIn wsX6_set (va_wsS RX6 164 yX6_isSetting wsX6_isSetting) := goodIn_app (goodIn_of _ (by decide +kernel)) ggX6_set_X6_isSetting
set_option maxRecDepth 20000 in
theorem ggX6_set_X6_holds : GoodIn wsX6_set wsX6_holds := goodIn_r _ [12, 13, 20, 21, 22, 23, 24, 25, 26, 27, 28, 29, 30, 31, 32] (by decide +kernel) (by decide +kernel)
set_option maxRecDepth 20000 in
theorem gX6_set_X6_holds : GoodIn wsX6_set (wsV RX6 87 RX6 yX6_holds wsX6_holds) := goodIn_app (goodIn_of _ (by decide +kernel)) ggX6_set_X6_holds
set_option maxRecDepth 20000 in
theorem ggX6_set_X6_remember : GoodIn wsX6_set wsX6_remember := goodIn_r _ [17, 18, 19, 1, 20, 21, 22, 23, 24, 25, 26, 27, 28, 29, 30, 31, 32] (by decide +kernel) (by decide +kernel)
set_option maxRecDepth 20000 in
theorem gX6_set_X6_remember : GoodIn wsX6_set (wsV RX6 155 RX6 yX6_remember wsX6_remember) := goodIn_app (goodIn_of _ (by decide +kernel)) ggX6_set_X6_remember
theorem dX6_set_0 : decode cX6_set 0 = .ok (.aload_n 0, 1) := by decide +kernel
theorem dX6_set_1 : decode cX6_set 1 = .ok (.iload_n 1, 1) := by decide +kernel
theorem dX6_set_2 : decode cX6_set 2 = .ok (.iload_n 2, 1) := by decide +kernel
theorem dX6_set_3 : decode cX6_set 3 = .ok (.invokestatic 164, 3) := by decide +kernel
theorem dX6_set_6 : decode cX6_set 6 = .ok (.ifCond .eq 7, 3) := by decide +kernel
theorem dX6_set_9 : decode cX6_set 9 = .ok (.iconst 0, 1) := by decide +kernel
theorem dX6_set_10 : decode cX6_set 10 = .ok (.goto 4, 3) := by decide +kernel
theorem dX6_set_13 : decode cX6_set 13 = .ok (.iconst 1, 1) := by decide +kernel
theorem dX6_set_14 : decode cX6_set 14 = .ok (.invokevirtual 87, 3) := by decide +kernel
theorem dX6_set_17 : decode cX6_set 17 = .ok (.ifCond .ne 5, 3) := by decide +kernel
theorem dX6_set_20 : decode cX6_set 20 = .ok (.iconst 0, 1) := by decide +kernel
theorem dX6_set_21 : decode cX6_set 21 = .ok (.ireturn, 1) := by decide +kernel
theorem dX6_set_22 : decode cX6_set 22 = .ok (.aload_n 0, 1) := by decide +kernel
theorem dX6_set_23 : decode cX6_set 23 = .ok (.invokevirtual 155, 3) := by decide +kernel
theorem dX6_set_26 : decode cX6_set 26 = .ok (.aload_n 0, 1) := by decide +kernel
theorem dX6_set_27 : decode cX6_set 27 = .ok (.getfield 7, 3) := by decide +kernel
theorem dX6_set_30 : decode cX6_set 30 = .ok (.bipush 6, 2) := by decide +kernel
theorem dX6_set_32 : decode cX6_set 32 = .ok (.iload_n 1, 1) := by decide +kernel
theorem dX6_set_33 : decode cX6_set 33 = .ok (.iadd, 1) := by decide +kernel
theorem dX6_set_34 : decode cX6_set 34 = .ok (.iaload, 1) := by decide +kernel
theorem dX6_set_35 : decode cX6_set 35 = .ok (.istore_n 3, 1) := by decide +kernel
theorem dX6_set_36 : decode cX6_set 36 = .ok (.aload_n 0, 1) := by decide +kernel
theorem dX6_set_37 : decode cX6_set 37 = .ok (.getfield 7, 3) := by decide +kernel
theorem dX6_set_40 : decode cX6_set 40 = .ok (.bipush 6, 2) := by decide +kernel
theorem dX6_set_42 : decode cX6_set 42 = .ok (.iload_n 1, 1) := by decide +kernel
theorem dX6_set_43 : decode cX6_set 43 = .ok (.iadd, 1) := by decide +kernel
theorem dX6_set_44 : decode cX6_set 44 = .ok (.iload_n 2, 1) := by decide +kernel
theorem dX6_set_45 : decode cX6_set 45 = .ok (.iastore, 1) := by decide +kernel
theorem dX6_set_46 : decode cX6_set 46 = .ok (.iload_n 3, 1) := by decide +kernel
theorem dX6_set_47 : decode cX6_set 47 = .ok (.ireturn, 1) := by decide +kernel
set_option maxRecDepth 20000 in
theorem ggX6_undo_X6_holds : GoodIn wsX6_undo wsX6_holds := goodIn_r _ [8, 9, 10, 11, 12, 13, 14, 15, 16, 17, 18, 19, 20, 21, 22] (by decide +kernel) (by decide +kernel)
set_option maxRecDepth 20000 in
theorem gX6_undo_X6_holds : GoodIn wsX6_undo (wsV RX6 87 RX6 yX6_holds wsX6_holds) := goodIn_app (goodIn_of _ (by decide +kernel)) ggX6_undo_X6_holds
theorem dX6_undo_0 : decode cX6_undo 0 = .ok (.aload_n 0, 1) := by decide +kernel
theorem dX6_undo_1 : decode cX6_undo 1 = .ok (.aload_n 0, 1) := by decide +kernel
theorem dX6_undo_2 : decode cX6_undo 2 = .ok (.getfield 41, 3) := by decide +kernel
theorem dX6_undo_5 : decode cX6_undo 5 = .ok (.ifCond .le 7, 3) := by decide +kernel
theorem dX6_undo_8 : decode cX6_undo 8 = .ok (.iconst 0, 1) := by decide +kernel
theorem dX6_undo_9 : decode cX6_undo 9 = .ok (.goto 4, 3) := by decide +kernel
theorem dX6_undo_12 : decode cX6_undo 12 = .ok (.iconst 1, 1) := by decide +kernel
theorem dX6_undo_13 : decode cX6_undo 13 = .ok (.invokevirtual 87, 3) := by decide +kernel
theorem dX6_undo_16 : decode cX6_undo 16 = .ok (.ifCond .ne 5, 3) := by decide +kernel
theorem dX6_undo_19 : decode cX6_undo 19 = .ok (.iconst 0, 1) := by decide +kernel
theorem dX6_undo_20 : decode cX6_undo 20 = .ok (.ireturn, 1) := by decide +kernel
theorem dX6_undo_21 : decode cX6_undo 21 = .ok (.aload_n 0, 1) := by decide +kernel
theorem dX6_undo_22 : decode cX6_undo 22 = .ok (.dup, 1) := by decide +kernel
theorem dX6_undo_23 : decode cX6_undo 23 = .ok (.getfield 41, 3) := by decide +kernel
theorem dX6_undo_26 : decode cX6_undo 26 = .ok (.iconst 1, 1) := by decide +kernel
theorem dX6_undo_27 : decode cX6_undo 27 = .ok (.isub, 1) := by decide +kernel
theorem dX6_undo_28 : decode cX6_undo 28 = .ok (.putfield 41, 3) := by decide +kernel
theorem dX6_undo_31 : decode cX6_undo 31 = .ok (.iconst 0, 1) := by decide +kernel
theorem dX6_undo_32 : decode cX6_undo 32 = .ok (.istore_n 1, 1) := by decide +kernel
theorem dX6_undo_33 : decode cX6_undo 33 = .ok (.iload_n 1, 1) := by decide +kernel
theorem dX6_undo_34 : decode cX6_undo 34 = .ok (.sipush 358, 3) := by decide +kernel
theorem dX6_undo_37 : decode cX6_undo 37 = .ok (.if_icmp .ge 30, 3) := by decide +kernel
theorem dX6_undo_40 : decode cX6_undo 40 = .ok (.aload_n 0, 1) := by decide +kernel
theorem dX6_undo_41 : decode cX6_undo 41 = .ok (.getfield 7, 3) := by decide +kernel
theorem dX6_undo_44 : decode cX6_undo 44 = .ok (.iload_n 1, 1) := by decide +kernel
theorem dX6_undo_45 : decode cX6_undo 45 = .ok (.aload_n 0, 1) := by decide +kernel
theorem dX6_undo_46 : decode cX6_undo 46 = .ok (.getfield 16, 3) := by decide +kernel
theorem dX6_undo_49 : decode cX6_undo 49 = .ok (.sipush 358, 3) := by decide +kernel
theorem dX6_undo_52 : decode cX6_undo 52 = .ok (.aload_n 0, 1) := by decide +kernel
theorem dX6_undo_53 : decode cX6_undo 53 = .ok (.getfield 41, 3) := by decide +kernel
theorem dX6_undo_56 : decode cX6_undo 56 = .ok (.imul, 1) := by decide +kernel
theorem dX6_undo_57 : decode cX6_undo 57 = .ok (.iload_n 1, 1) := by decide +kernel
theorem dX6_undo_58 : decode cX6_undo 58 = .ok (.iadd, 1) := by decide +kernel
theorem dX6_undo_59 : decode cX6_undo 59 = .ok (.iaload, 1) := by decide +kernel
theorem dX6_undo_60 : decode cX6_undo 60 = .ok (.iastore, 1) := by decide +kernel
theorem dX6_undo_61 : decode cX6_undo 61 = .ok (.iinc 1 1, 3) := by decide +kernel
theorem dX6_undo_64 : decode cX6_undo 64 = .ok (.goto (-31), 3) := by decide +kernel
theorem dX6_undo_67 : decode cX6_undo 67 = .ok (.aload_n 0, 1) := by decide +kernel
theorem dX6_undo_68 : decode cX6_undo 68 = .ok (.getfield 41, 3) := by decide +kernel
theorem dX6_undo_71 : decode cX6_undo 71 = .ok (.ireturn, 1) := by decide +kernel
set_option maxRecDepth 20000 in
theorem ggX6_turnOf_X6_push : GoodIn wsX6_turnOf wsX6_push := goodIn_r _ [5, 6, 7, 8, 32, 33, 34, 35, 36, 37, 38, 39, 40, 41, 42, 43, 44] (by decide +kernel) (by decide +kernel)
set_option maxRecDepth 20000 in
theorem gX6_turnOf_X6_push : GoodIn wsX6_turnOf (wsV RX6 167 RX6 yX6_push wsX6_push) := goodIn_app (goodIn_of _ (by decide +kernel)) ggX6_turnOf_X6_push
set_option maxRecDepth 20000 in
theorem ggX6_turnOf_X6_isStanding : GoodIn wsX6_turnOf wsX6_isStanding := goodIn_r _ [12, 8, 13, 14, 4, 15, 32, 33, 34, 35, 36, 37, 38, 39, 40, 41, 42, 43, 44] (by decide +kernel) (by decide +kernel)
set_option maxRecDepth 20000 in
theorem gX6_turnOf_X6_isStanding : GoodIn wsX6_turnOf (wsV RX6 62 RX6 yX6_isStanding wsX6_isStanding) := goodIn_app (goodIn_of _ (by decide +kernel)) ggX6_turnOf_X6_isStanding
set_option maxRecDepth 20000 in
theorem ggX6_turnOf_X6_minute : GoodIn wsX6_turnOf wsX6_minute := goodIn_r _ [19, 8, 13, 14, 4, 15, 9, 10, 11, 12, 20, 21, 22, 23, 24, 25, 26, 27, 32, 33, 34, 35, 36, 37, 38, 39, 40, 41, 42, 43, 44] (by decide +kernel) (by decide +kernel)
set_option maxRecDepth 20000 in
theorem gX6_turnOf_X6_minute : GoodIn wsX6_turnOf (wsV RX6 80 RX6 yX6_minute wsX6_minute) := goodIn_app (goodIn_of _ (by decide +kernel)) ggX6_turnOf_X6_minute
set_option maxRecDepth 20000 in
theorem ggX6_turnOf_X6_pop : GoodIn wsX6_turnOf wsX6_pop := goodIn_r _ [31, 7, 8, 6, 32, 33, 34, 35, 36, 37, 38, 39, 40, 41, 42, 43, 44] (by decide +kernel) (by decide +kernel)
set_option maxRecDepth 20000 in
theorem gX6_turnOf_X6_pop : GoodIn wsX6_turnOf (wsV RX6 170 RX6 yX6_pop wsX6_pop) := goodIn_app (goodIn_of _ (by decide +kernel)) ggX6_turnOf_X6_pop
theorem dX6_turnOf_0 : decode cX6_turnOf 0 = .ok (.aload_n 0, 1) := by decide +kernel
theorem dX6_turnOf_1 : decode cX6_turnOf 1 = .ok (.invokevirtual 167, 3) := by decide +kernel
theorem dX6_turnOf_4 : decode cX6_turnOf 4 = .ok (.iconst 0, 1) := by decide +kernel
theorem dX6_turnOf_5 : decode cX6_turnOf 5 = .ok (.istore_n 2, 1) := by decide +kernel
theorem dX6_turnOf_6 : decode cX6_turnOf 6 = .ok (.aload_n 0, 1) := by decide +kernel
theorem dX6_turnOf_7 : decode cX6_turnOf 7 = .ok (.iload_n 1, 1) := by decide +kernel
theorem dX6_turnOf_8 : decode cX6_turnOf 8 = .ok (.invokevirtual 62, 3) := by decide +kernel
theorem dX6_turnOf_11 : decode cX6_turnOf 11 = .ok (.ifCond .eq 14, 3) := by decide +kernel
theorem dX6_turnOf_14 : decode cX6_turnOf 14 = .ok (.aload_n 0, 1) := by decide +kernel
theorem dX6_turnOf_15 : decode cX6_turnOf 15 = .ok (.invokevirtual 80, 3) := by decide +kernel
theorem dX6_turnOf_18 : decode cX6_turnOf 18 = .ok (.istore_n 3, 1) := by decide +kernel
theorem dX6_turnOf_19 : decode cX6_turnOf 19 = .ok (.iinc 2 1, 3) := by decide +kernel
theorem dX6_turnOf_22 : decode cX6_turnOf 22 = .ok (.goto (-16), 3) := by decide +kernel
theorem dX6_turnOf_25 : decode cX6_turnOf 25 = .ok (.aload_n 0, 1) := by decide +kernel
theorem dX6_turnOf_26 : decode cX6_turnOf 26 = .ok (.invokevirtual 170, 3) := by decide +kernel
theorem dX6_turnOf_29 : decode cX6_turnOf 29 = .ok (.iload_n 2, 1) := by decide +kernel
theorem dX6_turnOf_30 : decode cX6_turnOf 30 = .ok (.ireturn, 1) := by decide +kernel
set_option maxRecDepth 20000 in
theorem ggX6_servedIn_X6_goFault : GoodIn wsX6_servedIn wsX6_goFault := goodIn_r _ [5, 6, 7, 8, 4, 9, 10, 11, 12, 13, 14, 15, 16, 17, 18, 19, 20, 52, 53, 54, 55, 56, 57, 58, 59, 60, 61, 62, 63, 64] (by decide +kernel) (by decide +kernel)
set_option maxRecDepth 20000 in
theorem gX6_servedIn_X6_goFault : GoodIn wsX6_servedIn (wsV RX6 112 RX6 yX6_goFault wsX6_goFault) := goodIn_app (goodIn_of _ (by decide +kernel)) ggX6_servedIn_X6_goFault
set_option maxRecDepth 20000 in
theorem ggX6_servedIn_X6_holds : GoodIn wsX6_servedIn wsX6_holds := goodIn_r _ [24, 25, 52, 53, 54, 55, 56, 57, 58, 59, 60, 61, 62, 63, 64] (by decide +kernel) (by decide +kernel)
set_option maxRecDepth 20000 in
theorem gX6_servedIn_X6_holds : GoodIn wsX6_servedIn (wsV RX6 87 RX6 yX6_holds wsX6_holds) := goodIn_app (goodIn_of _ (by decide +kernel)) ggX6_servedIn_X6_holds
set_option maxRecDepth 20000 in
theorem ggX6_servedIn_X6_turnOf : GoodIn wsX6_servedIn wsX6_turnOf := goodIn_r _ [29, 30, 31, 32, 4, 33, 34, 35, 10, 14, 15, 16, 17, 18, 19, 20, 36, 37, 38, 39, 40, 41, 42, 43, 44, 45, 46, 47, 48, 49, 50, 51, 52, 53, 54, 55, 56, 57, 58, 59, 60, 61, 62, 63, 64] (by decide +kernel) (by decide +kernel)
set_option maxRecDepth 20000 in
theorem gX6_servedIn_X6_turnOf : GoodIn wsX6_servedIn (wsV RX6 173 RX6 yX6_turnOf wsX6_turnOf) := goodIn_app (goodIn_of _ (by decide +kernel)) ggX6_servedIn_X6_turnOf
theorem dX6_servedIn_0 : decode cX6_servedIn 0 = .ok (.aload_n 0, 1) := by decide +kernel
theorem dX6_servedIn_1 : decode cX6_servedIn 1 = .ok (.aload_n 0, 1) := by decide +kernel
theorem dX6_servedIn_2 : decode cX6_servedIn 2 = .ok (.iload_n 1, 1) := by decide +kernel
theorem dX6_servedIn_3 : decode cX6_servedIn 3 = .ok (.invokevirtual 112, 3) := by decide +kernel
theorem dX6_servedIn_6 : decode cX6_servedIn 6 = .ok (.invokevirtual 87, 3) := by decide +kernel
theorem dX6_servedIn_9 : decode cX6_servedIn 9 = .ok (.ifCond .eq 11, 3) := by decide +kernel
theorem dX6_servedIn_12 : decode cX6_servedIn 12 = .ok (.aload_n 0, 1) := by decide +kernel
theorem dX6_servedIn_13 : decode cX6_servedIn 13 = .ok (.iload_n 1, 1) := by decide +kernel
theorem dX6_servedIn_14 : decode cX6_servedIn 14 = .ok (.invokevirtual 173, 3) := by decide +kernel
theorem dX6_servedIn_17 : decode cX6_servedIn 17 = .ok (.goto 4, 3) := by decide +kernel
theorem dX6_servedIn_20 : decode cX6_servedIn 20 = .ok (.iconst 0, 1) := by decide +kernel
theorem dX6_servedIn_21 : decode cX6_servedIn 21 = .ok (.ireturn, 1) := by decide +kernel
set_option maxRecDepth 20000 in
theorem ggX6_willPay_X6_in : GoodIn wsX6_willPay wsX6_in := goodIn_r _ [5] (by decide +kernel) (by decide +kernel)
set_option maxRecDepth 20000 in
theorem gX6_willPay_X6_in : GoodIn wsX6_willPay (va_wsS RX6 47 yX6_in wsX6_in) := goodIn_app (goodIn_of _ (by decide +kernel)) ggX6_willPay_X6_in
set_option maxRecDepth 20000 in
theorem ggX6_willPay_X6_holds : GoodIn wsX6_willPay wsX6_holds := goodIn_r _ [9, 10, 44, 45, 46, 47, 48, 49, 50, 51, 52, 53, 54, 55, 56] (by decide +kernel) (by decide +kernel)
set_option maxRecDepth 20000 in
theorem gX6_willPay_X6_holds : GoodIn wsX6_willPay (wsV RX6 87 RX6 yX6_holds wsX6_holds) := goodIn_app (goodIn_of _ (by decide +kernel)) ggX6_willPay_X6_holds
set_option maxRecDepth 20000 in
theorem ggX6_willPay_X6_push : GoodIn wsX6_willPay wsX6_push := goodIn_r _ [14, 15, 16, 1, 44, 45, 46, 47, 48, 49, 50, 51, 52, 53, 54, 55, 56] (by decide +kernel) (by decide +kernel)
set_option maxRecDepth 20000 in
theorem gX6_willPay_X6_push : GoodIn wsX6_willPay (wsV RX6 167 RX6 yX6_push wsX6_push) := goodIn_app (goodIn_of _ (by decide +kernel)) ggX6_willPay_X6_push
set_option maxRecDepth 20000 in
theorem ggX6_willPay_X6_goBy : GoodIn wsX6_willPay wsX6_goBy := goodIn_r _ [20, 21, 22, 23, 4, 24, 1, 25, 26, 27, 28, 29, 30, 31, 32, 33, 34, 35, 36, 37, 38, 39, 44, 45, 46, 47, 48, 49, 50, 51, 52, 53, 54, 55, 56] (by decide +kernel) (by decide +kernel)
set_option maxRecDepth 20000 in
theorem gX6_willPay_X6_goBy : GoodIn wsX6_willPay (wsV RX6 133 RX6 yX6_goBy wsX6_goBy) := goodIn_app (goodIn_of _ (by decide +kernel)) ggX6_willPay_X6_goBy
set_option maxRecDepth 20000 in
theorem ggX6_willPay_X6_pop : GoodIn wsX6_willPay wsX6_pop := goodIn_r _ [43, 16, 1, 15, 44, 45, 46, 47, 48, 49, 50, 51, 52, 53, 54, 55, 56] (by decide +kernel) (by decide +kernel)
set_option maxRecDepth 20000 in
theorem gX6_willPay_X6_pop : GoodIn wsX6_willPay (wsV RX6 170 RX6 yX6_pop wsX6_pop) := goodIn_app (goodIn_of _ (by decide +kernel)) ggX6_willPay_X6_pop
theorem dX6_willPay_0 : decode cX6_willPay 0 = .ok (.aload_n 0, 1) := by decide +kernel
theorem dX6_willPay_1 : decode cX6_willPay 1 = .ok (.iload_n 1, 1) := by decide +kernel
theorem dX6_willPay_2 : decode cX6_willPay 2 = .ok (.iconst 1, 1) := by decide +kernel
theorem dX6_willPay_3 : decode cX6_willPay 3 = .ok (.sipush 999, 3) := by decide +kernel
theorem dX6_willPay_6 : decode cX6_willPay 6 = .ok (.invokestatic 47, 3) := by decide +kernel
theorem dX6_willPay_9 : decode cX6_willPay 9 = .ok (.ifCond .eq 7, 3) := by decide +kernel
theorem dX6_willPay_12 : decode cX6_willPay 12 = .ok (.iconst 0, 1) := by decide +kernel
theorem dX6_willPay_13 : decode cX6_willPay 13 = .ok (.goto 4, 3) := by decide +kernel
theorem dX6_willPay_16 : decode cX6_willPay 16 = .ok (.iconst 1, 1) := by decide +kernel
theorem dX6_willPay_17 : decode cX6_willPay 17 = .ok (.invokevirtual 87, 3) := by decide +kernel
theorem dX6_willPay_20 : decode cX6_willPay 20 = .ok (.ifCond .ne 5, 3) := by decide +kernel
theorem dX6_willPay_23 : decode cX6_willPay 23 = .ok (.iconst 0, 1) := by decide +kernel
theorem dX6_willPay_24 : decode cX6_willPay 24 = .ok (.ireturn, 1) := by decide +kernel
theorem dX6_willPay_25 : decode cX6_willPay 25 = .ok (.aload_n 0, 1) := by decide +kernel
theorem dX6_willPay_26 : decode cX6_willPay 26 = .ok (.invokevirtual 167, 3) := by decide +kernel
theorem dX6_willPay_29 : decode cX6_willPay 29 = .ok (.aload_n 0, 1) := by decide +kernel
theorem dX6_willPay_30 : decode cX6_willPay 30 = .ok (.getfield 7, 3) := by decide +kernel
theorem dX6_willPay_33 : decode cX6_willPay 33 = .ok (.iconst 5, 1) := by decide +kernel
theorem dX6_willPay_34 : decode cX6_willPay 34 = .ok (.iaload, 1) := by decide +kernel
theorem dX6_willPay_35 : decode cX6_willPay 35 = .ok (.istore_n 2, 1) := by decide +kernel
theorem dX6_willPay_36 : decode cX6_willPay 36 = .ok (.aload_n 0, 1) := by decide +kernel
theorem dX6_willPay_37 : decode cX6_willPay 37 = .ok (.iload_n 1, 1) := by decide +kernel
theorem dX6_willPay_38 : decode cX6_willPay 38 = .ok (.invokevirtual 133, 3) := by decide +kernel
theorem dX6_willPay_41 : decode cX6_willPay 41 = .ok (.istore_n 3, 1) := by decide +kernel
theorem dX6_willPay_42 : decode cX6_willPay 42 = .ok (.aload_n 0, 1) := by decide +kernel
theorem dX6_willPay_43 : decode cX6_willPay 43 = .ok (.getfield 7, 3) := by decide +kernel
theorem dX6_willPay_46 : decode cX6_willPay 46 = .ok (.iconst 5, 1) := by decide +kernel
theorem dX6_willPay_47 : decode cX6_willPay 47 = .ok (.iaload, 1) := by decide +kernel
theorem dX6_willPay_48 : decode cX6_willPay 48 = .ok (.iload_n 2, 1) := by decide +kernel
theorem dX6_willPay_49 : decode cX6_willPay 49 = .ok (.isub, 1) := by decide +kernel
theorem dX6_willPay_50 : decode cX6_willPay 50 = .ok (.istore 4, 2) := by decide +kernel
theorem dX6_willPay_52 : decode cX6_willPay 52 = .ok (.aload_n 0, 1) := by decide +kernel
theorem dX6_willPay_53 : decode cX6_willPay 53 = .ok (.invokevirtual 170, 3) := by decide +kernel
theorem dX6_willPay_56 : decode cX6_willPay 56 = .ok (.iload 4, 2) := by decide +kernel
theorem dX6_willPay_58 : decode cX6_willPay 58 = .ok (.ireturn, 1) := by decide +kernel
set_option maxRecDepth 20000 in
theorem ggX6_gained_X6_turnOf : GoodIn wsX6_gained wsX6_turnOf := goodIn_r _ [5, 6, 7, 8, 4, 9, 10, 11, 12, 13, 14, 15, 16, 17, 18, 19, 20, 21, 22, 23, 24, 25, 26, 27, 28, 29, 30, 31, 32, 33, 34, 35, 44, 45, 46, 47, 48, 49, 50, 51, 52, 53, 54, 55, 56] (by decide +kernel) (by decide +kernel)
set_option maxRecDepth 20000 in
theorem gX6_gained_X6_turnOf : GoodIn wsX6_gained (wsV RX6 173 RX6 yX6_turnOf wsX6_turnOf) := goodIn_app (goodIn_of _ (by decide +kernel)) ggX6_gained_X6_turnOf
set_option maxRecDepth 20000 in
theorem ggX6_gained_X6_push : GoodIn wsX6_gained wsX6_push := goodIn_r _ [9, 10, 11, 12, 44, 45, 46, 47, 48, 49, 50, 51, 52, 53, 54, 55, 56] (by decide +kernel) (by decide +kernel)
set_option maxRecDepth 20000 in
theorem gX6_gained_X6_push : GoodIn wsX6_gained (wsV RX6 167 RX6 yX6_push wsX6_push) := goodIn_app (goodIn_of _ (by decide +kernel)) ggX6_gained_X6_push
set_option maxRecDepth 20000 in
theorem ggX6_gained_X6_exchanges : GoodIn wsX6_gained wsX6_exchanges := goodIn_r _ [39, 12, 17, 18, 4, 19, 40, 41, 42, 43, 44, 45, 46, 47, 48, 49, 50, 51, 52, 53, 54, 55, 56] (by decide +kernel) (by decide +kernel)
set_option maxRecDepth 20000 in
theorem gX6_gained_X6_exchanges : GoodIn wsX6_gained (wsV RX6 127 RX6 yX6_exchanges wsX6_exchanges) := goodIn_app (goodIn_of _ (by decide +kernel)) ggX6_gained_X6_exchanges
set_option maxRecDepth 20000 in
theorem ggX6_gained_X6_pop : GoodIn wsX6_gained wsX6_pop := goodIn_r _ [35, 11, 12, 10, 44, 45, 46, 47, 48, 49, 50, 51, 52, 53, 54, 55, 56] (by decide +kernel) (by decide +kernel)
set_option maxRecDepth 20000 in
theorem gX6_gained_X6_pop : GoodIn wsX6_gained (wsV RX6 170 RX6 yX6_pop wsX6_pop) := goodIn_app (goodIn_of _ (by decide +kernel)) ggX6_gained_X6_pop
theorem dX6_gained_0 : decode cX6_gained 0 = .ok (.aload_n 0, 1) := by decide +kernel
theorem dX6_gained_1 : decode cX6_gained 1 = .ok (.iload_n 1, 1) := by decide +kernel
theorem dX6_gained_2 : decode cX6_gained 2 = .ok (.invokevirtual 173, 3) := by decide +kernel
theorem dX6_gained_5 : decode cX6_gained 5 = .ok (.istore_n 3, 1) := by decide +kernel
theorem dX6_gained_6 : decode cX6_gained 6 = .ok (.aload_n 0, 1) := by decide +kernel
theorem dX6_gained_7 : decode cX6_gained 7 = .ok (.invokevirtual 167, 3) := by decide +kernel
theorem dX6_gained_10 : decode cX6_gained 10 = .ok (.aload_n 0, 1) := by decide +kernel
theorem dX6_gained_11 : decode cX6_gained 11 = .ok (.iload_n 1, 1) := by decide +kernel
theorem dX6_gained_12 : decode cX6_gained 12 = .ok (.iload_n 2, 1) := by decide +kernel
theorem dX6_gained_13 : decode cX6_gained 13 = .ok (.invokevirtual 127, 3) := by decide +kernel
theorem dX6_gained_16 : decode cX6_gained 16 = .ok (.istore 4, 2) := by decide +kernel
theorem dX6_gained_18 : decode cX6_gained 18 = .ok (.aload_n 0, 1) := by decide +kernel
theorem dX6_gained_19 : decode cX6_gained 19 = .ok (.iload_n 1, 1) := by decide +kernel
theorem dX6_gained_20 : decode cX6_gained 20 = .ok (.invokevirtual 173, 3) := by decide +kernel
theorem dX6_gained_23 : decode cX6_gained 23 = .ok (.istore 5, 2) := by decide +kernel
theorem dX6_gained_25 : decode cX6_gained 25 = .ok (.aload_n 0, 1) := by decide +kernel
theorem dX6_gained_26 : decode cX6_gained 26 = .ok (.invokevirtual 170, 3) := by decide +kernel
theorem dX6_gained_29 : decode cX6_gained 29 = .ok (.iload_n 3, 1) := by decide +kernel
theorem dX6_gained_30 : decode cX6_gained 30 = .ok (.iload 5, 2) := by decide +kernel
theorem dX6_gained_32 : decode cX6_gained 32 = .ok (.isub, 1) := by decide +kernel
theorem dX6_gained_33 : decode cX6_gained 33 = .ok (.iload 4, 2) := by decide +kernel
theorem dX6_gained_35 : decode cX6_gained 35 = .ok (.isub, 1) := by decide +kernel
theorem dX6_gained_36 : decode cX6_gained 36 = .ok (.ireturn, 1) := by decide +kernel
set_option maxRecDepth 20000 in
theorem ggX6_gain_X6_exchangeFault : GoodIn wsX6_gain wsX6_exchangeFault := goodIn_r _ [5, 6, 7, 8, 9, 4, 10, 11, 12, 13, 14, 15, 16, 17, 18, 19, 20, 21, 22, 23, 24, 64, 65, 66, 67, 68, 69, 70, 71, 72, 73, 74, 75, 76] (by decide +kernel) (by decide +kernel)
set_option maxRecDepth 20000 in
theorem gX6_gain_X6_exchangeFault : GoodIn wsX6_gain (wsV RX6 115 RX6 yX6_exchangeFault wsX6_exchangeFault) := goodIn_app (goodIn_of _ (by decide +kernel)) ggX6_gain_X6_exchangeFault
set_option maxRecDepth 20000 in
theorem ggX6_gain_X6_holds : GoodIn wsX6_gain wsX6_holds := goodIn_r _ [28, 29, 64, 65, 66, 67, 68, 69, 70, 71, 72, 73, 74, 75, 76] (by decide +kernel) (by decide +kernel)
set_option maxRecDepth 20000 in
theorem gX6_gain_X6_holds : GoodIn wsX6_gain (wsV RX6 87 RX6 yX6_holds wsX6_holds) := goodIn_app (goodIn_of _ (by decide +kernel)) ggX6_gain_X6_holds
set_option maxRecDepth 20000 in
theorem ggX6_gain_X6_gained : GoodIn wsX6_gain wsX6_gained := goodIn_r _ [33, 34, 35, 36, 4, 37, 38, 39, 40, 41, 42, 43, 6, 14, 15, 16, 17, 18, 19, 20, 44, 45, 46, 47, 48, 49, 50, 51, 52, 53, 54, 55, 56, 57, 58, 59, 60, 61, 62, 63, 21, 22, 23, 24, 64, 65, 66, 67, 68, 69, 70, 71, 72, 73, 74, 75, 76] (by decide +kernel) (by decide +kernel)
set_option maxRecDepth 20000 in
theorem gX6_gain_X6_gained : GoodIn wsX6_gain (wsV RX6 176 RX6 yX6_gained wsX6_gained) := goodIn_app (goodIn_of _ (by decide +kernel)) ggX6_gain_X6_gained
theorem dX6_gain_0 : decode cX6_gain 0 = .ok (.aload_n 0, 1) := by decide +kernel
theorem dX6_gain_1 : decode cX6_gain 1 = .ok (.aload_n 0, 1) := by decide +kernel
theorem dX6_gain_2 : decode cX6_gain 2 = .ok (.iload_n 1, 1) := by decide +kernel
theorem dX6_gain_3 : decode cX6_gain 3 = .ok (.iload_n 2, 1) := by decide +kernel
theorem dX6_gain_4 : decode cX6_gain 4 = .ok (.invokevirtual 115, 3) := by decide +kernel
theorem dX6_gain_7 : decode cX6_gain 7 = .ok (.invokevirtual 87, 3) := by decide +kernel
