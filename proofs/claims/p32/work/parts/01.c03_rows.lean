set_option maxRecDepth 20000 in
theorem ggX5_come_X2_remember : GoodIn wsX5_come wsX2_remember := goodIn_r _ [40, 41, 42, 43, 44, 45, 39, 46, 47, 48, 49, 50, 51, 52, 53, 54, 17, 55, 19, 27, 56, 57, 58, 59, 60, 61, 62, 63, 64, 34, 65, 30, 31, 32, 33, 35, 66, 67, 68, 69, 70, 71, 72, 73, 74, 75, 76, 77, 78, 79, 80, 81, 82, 83, 84, 85, 86, 87, 88, 89, 90, 91, 92, 93, 94, 95, 131, 132, 133, 115, 116, 117, 118, 119, 120, 121, 122, 123, 124, 125, 126, 127, 128, 129, 130, 134, 135, 136, 137, 138, 139, 140, 141, 142] (by decide +kernel) (by decide +kernel)
set_option maxRecDepth 20000 in
theorem gX5_come_X2_remember : GoodIn wsX5_come (wsV RX5 130 RX2 yX2_remember wsX2_remember) := goodIn_app (goodIn_of _ (by decide +kernel)) ggX5_come_X2_remember
set_option maxRecDepth 20000 in
theorem ggX5_come_X1_enter : GoodIn wsX5_come wsX1_enter := goodIn_r _ [99, 27, 56, 100, 24, 25, 17, 26, 28, 29, 15, 16, 18, 19, 21, 10, 22, 30, 31, 32, 33, 34, 35, 77, 78, 79, 80, 65, 81, 101, 102, 103, 85, 104, 87, 88, 89, 90, 91, 92, 93, 94, 95, 105, 106, 107, 69, 108, 74, 75, 115, 116, 117, 118, 119, 120, 121, 122, 123, 124, 125, 126, 127, 128, 129, 130, 134, 135, 136, 137, 138, 139, 140, 141, 142] (by decide +kernel) (by decide +kernel)
set_option maxRecDepth 20000 in
theorem gX5_come_X1_enter : GoodIn wsX5_come (wsV RX5 146 RX1 yX1_enter wsX1_enter) := goodIn_app (goodIn_of _ (by decide +kernel)) ggX5_come_X1_enter
theorem dX5_come_0 : decode cX5_come 0 = .ok (.aload_n 0, 1) := by decide +kernel
theorem dX5_come_1 : decode cX5_come 1 = .ok (.iload_n 1, 1) := by decide +kernel
theorem dX5_come_2 : decode cX5_come 2 = .ok (.invokevirtual 88, 3) := by decide +kernel
theorem dX5_come_5 : decode cX5_come 5 = .ok (.iload_n 2, 1) := by decide +kernel
theorem dX5_come_6 : decode cX5_come 6 = .ok (.invokestatic 134, 3) := by decide +kernel
theorem dX5_come_9 : decode cX5_come 9 = .ok (.ifCond .ne 13, 3) := by decide +kernel
theorem dX5_come_12 : decode cX5_come 12 = .ok (.new 48, 3) := by decide +kernel
theorem dX5_come_15 : decode cX5_come 15 = .ok (.dup, 1) := by decide +kernel
theorem dX5_come_16 : decode cX5_come 16 = .ok (.ldc 138, 2) := by decide +kernel
theorem dX5_come_18 : decode cX5_come 18 = .ok (.invokespecial 52, 3) := by decide +kernel
theorem dX5_come_21 : decode cX5_come 21 = .ok (.athrow, 1) := by decide +kernel
theorem dX5_come_22 : decode cX5_come 22 = .ok (.aload_n 0, 1) := by decide +kernel
theorem dX5_come_23 : decode cX5_come 23 = .ok (.getfield 10, 3) := by decide +kernel
theorem dX5_come_26 : decode cX5_come 26 = .ok (.iload_n 1, 1) := by decide +kernel
theorem dX5_come_27 : decode cX5_come 27 = .ok (.iload_n 2, 1) := by decide +kernel
theorem dX5_come_28 : decode cX5_come 28 = .ok (.invokevirtual 140, 3) := by decide +kernel
theorem dX5_come_31 : decode cX5_come 31 = .ok (.ifCond .ne 13, 3) := by decide +kernel
theorem dX5_come_34 : decode cX5_come 34 = .ok (.new 59, 3) := by decide +kernel
theorem dX5_come_37 : decode cX5_come 37 = .ok (.dup, 1) := by decide +kernel
theorem dX5_come_38 : decode cX5_come 38 = .ok (.ldc 144, 2) := by decide +kernel
theorem dX5_come_40 : decode cX5_come 40 = .ok (.invokespecial 63, 3) := by decide +kernel
theorem dX5_come_43 : decode cX5_come 43 = .ok (.athrow, 1) := by decide +kernel
theorem dX5_come_44 : decode cX5_come 44 = .ok (.aload_n 0, 1) := by decide +kernel
theorem dX5_come_45 : decode cX5_come 45 = .ok (.getfield 29, 3) := by decide +kernel
theorem dX5_come_48 : decode cX5_come 48 = .ok (.aload_n 0, 1) := by decide +kernel
theorem dX5_come_49 : decode cX5_come 49 = .ok (.getfield 10, 3) := by decide +kernel
theorem dX5_come_52 : decode cX5_come 52 = .ok (.invokevirtual 130, 3) := by decide +kernel
theorem dX5_come_55 : decode cX5_come 55 = .ok (.aload_n 0, 1) := by decide +kernel
theorem dX5_come_56 : decode cX5_come 56 = .ok (.getfield 10, 3) := by decide +kernel
theorem dX5_come_59 : decode cX5_come 59 = .ok (.iload_n 1, 1) := by decide +kernel
theorem dX5_come_60 : decode cX5_come 60 = .ok (.iload_n 2, 1) := by decide +kernel
theorem dX5_come_61 : decode cX5_come 61 = .ok (.invokevirtual 146, 3) := by decide +kernel
theorem dX5_come_64 : decode cX5_come 64 = .ok (.ireturn, 1) := by decide +kernel
set_option maxRecDepth 20000 in
theorem ggX5_go_X5_requireStanding : GoodIn wsX5_go wsX5_requireStanding := goodIn_ca (goodIn_ca (goodIn_r _ [7, 8, 9, 2, 10, 11, 12, 6, 13, 14, 15, 16, 17, 18, 19, 20, 21, 22, 23, 24, 25, 26, 27, 28, 29, 30, 31, 32, 33, 122, 123, 124, 125, 126, 127, 128, 129, 130, 131, 132, 133, 134, 135, 136, 137, 138, 139, 140, 141, 142, 143, 144, 145, 146, 147] (by decide +kernel) (by decide +kernel)) (goodIn_sub (fun _ h => List.mem_cons_of_mem _ (List.mem_append_left _ (List.mem_append_right _ h))) (by decide +kernel))) (goodIn_sub (fun _ h => List.mem_cons_of_mem _ (List.mem_append_right _ h)) (by decide +kernel))
set_option maxRecDepth 20000 in
theorem gX5_go_X5_requireStanding : GoodIn wsX5_go (wsV RX5 149 RX5 yX5_requireStanding wsX5_requireStanding) := goodIn_app (goodIn_of _ (by decide +kernel)) ggX5_go_X5_requireStanding
set_option maxRecDepth 20000 in
theorem ggX5_go_X2_remember : GoodIn wsX5_go wsX2_remember := goodIn_r _ [38, 39, 40, 41, 42, 43, 37, 44, 45, 46, 47, 48, 49, 50, 51, 52, 19, 53, 54, 21, 55, 56, 57, 58, 59, 60, 61, 62, 63, 64, 32, 65, 66, 67, 68, 69, 70, 71, 72, 73, 74, 75, 76, 77, 78, 79, 80, 28, 29, 30, 31, 33, 81, 82, 83, 84, 85, 86, 87, 88, 89, 90, 91, 92, 93, 94, 148, 149, 150, 128, 129, 130, 131, 132, 133, 134, 135, 136, 137, 138, 151, 152, 153, 154, 155, 139, 140, 141, 142, 143, 144, 145, 146, 147] (by decide +kernel) (by decide +kernel)
set_option maxRecDepth 20000 in
theorem gX5_go_X2_remember : GoodIn wsX5_go (wsV RX5 130 RX2 yX2_remember wsX2_remember) := goodIn_app (goodIn_of _ (by decide +kernel)) ggX5_go_X2_remember
set_option maxRecDepth 20000 in
theorem ggX5_go_X1_leave : GoodIn wsX5_go wsX1_leave := goodIn_r _ [98, 99, 100, 101, 23, 24, 19, 25, 26, 27, 17, 18, 20, 21, 28, 29, 30, 31, 32, 33, 65, 66, 67, 68, 64, 69, 102, 103, 104, 105, 106, 107, 108, 73, 109, 78, 79, 110, 111, 112, 113, 114, 115, 116, 117, 118, 119, 120, 84, 121, 87, 88, 139, 140, 141, 142, 143, 144, 145, 146, 147, 128, 129, 130, 131, 132, 133, 134, 135, 136, 137, 138, 151, 152, 153, 154, 155] (by decide +kernel) (by decide +kernel)
set_option maxRecDepth 20000 in
theorem gX5_go_X1_leave : GoodIn wsX5_go (wsV RX5 152 RX1 yX1_leave wsX1_leave) := goodIn_app (goodIn_of _ (by decide +kernel)) ggX5_go_X1_leave
theorem dX5_go_0 : decode cX5_go 0 = .ok (.aload_n 0, 1) := by decide +kernel
theorem dX5_go_1 : decode cX5_go 1 = .ok (.iload_n 1, 1) := by decide +kernel
theorem dX5_go_2 : decode cX5_go 2 = .ok (.invokevirtual 149, 3) := by decide +kernel
theorem dX5_go_5 : decode cX5_go 5 = .ok (.aload_n 0, 1) := by decide +kernel
theorem dX5_go_6 : decode cX5_go 6 = .ok (.getfield 29, 3) := by decide +kernel
theorem dX5_go_9 : decode cX5_go 9 = .ok (.aload_n 0, 1) := by decide +kernel
theorem dX5_go_10 : decode cX5_go 10 = .ok (.getfield 10, 3) := by decide +kernel
theorem dX5_go_13 : decode cX5_go 13 = .ok (.invokevirtual 130, 3) := by decide +kernel
theorem dX5_go_16 : decode cX5_go 16 = .ok (.aload_n 0, 1) := by decide +kernel
theorem dX5_go_17 : decode cX5_go 17 = .ok (.getfield 10, 3) := by decide +kernel
theorem dX5_go_20 : decode cX5_go 20 = .ok (.iload_n 1, 1) := by decide +kernel
theorem dX5_go_21 : decode cX5_go 21 = .ok (.invokevirtual 152, 3) := by decide +kernel
theorem dX5_go_24 : decode cX5_go 24 = .ok (.ireturn, 1) := by decide +kernel
set_option maxRecDepth 20000 in
theorem ggX5_exchange_X5_requireTrade : GoodIn wsX5_exchange wsX5_requireTrade := goodIn_ca (goodIn_ca (goodIn_r _ [7, 8, 9, 2, 10, 11, 12, 6, 13, 14, 15, 16, 17, 18, 19, 20, 21, 22, 23, 24, 25, 26, 27, 28, 29, 30, 31, 32, 33, 34, 35, 36, 37, 38, 39, 40, 41, 42, 43, 44, 45, 46, 47, 48, 49, 50, 51, 52, 53, 54, 55, 56, 57, 58, 59, 60, 61, 62, 128, 129, 130, 131, 132, 133, 134, 135, 136, 137, 138, 139, 140, 141, 142, 143, 144, 145, 146, 147, 148, 149, 150, 151, 152, 153, 154, 155, 156, 157, 158] (by decide +kernel) (by decide +kernel)) (goodIn_sub (fun _ h => List.mem_cons_of_mem _ (List.mem_append_left _ (List.mem_append_right _ h))) (by decide +kernel))) (goodIn_sub (fun _ h => List.mem_cons_of_mem _ (List.mem_append_right _ h)) (by decide +kernel))
set_option maxRecDepth 20000 in
theorem gX5_exchange_X5_requireTrade : GoodIn wsX5_exchange (wsV RX5 155 RX5 yX5_requireTrade wsX5_requireTrade) := goodIn_app (goodIn_of _ (by decide +kernel)) ggX5_exchange_X5_requireTrade
set_option maxRecDepth 20000 in
theorem ggX5_exchange_X2_remember : GoodIn wsX5_exchange wsX2_remember := goodIn_r _ [67, 68, 69, 70, 71, 72, 66, 73, 74, 75, 76, 77, 78, 79, 80, 81, 19, 82, 83, 21, 84, 85, 86, 87, 62, 88, 89, 90, 91, 49, 39, 45, 46, 47, 48, 50, 92, 93, 94, 54, 95, 96, 97, 98, 56, 57, 99, 35, 36, 37, 38, 40, 100, 101, 102, 103, 104, 105, 106, 107, 108, 109, 110, 111, 112, 113, 159, 160, 161, 134, 135, 136, 137, 138, 139, 140, 141, 142, 143, 144, 154, 155, 156, 157, 158, 145, 146, 147, 148, 149, 150, 151, 152, 153] (by decide +kernel) (by decide +kernel)
set_option maxRecDepth 20000 in
theorem gX5_exchange_X2_remember : GoodIn wsX5_exchange (wsV RX5 130 RX2 yX2_remember wsX2_remember) := goodIn_app (goodIn_of _ (by decide +kernel)) ggX5_exchange_X2_remember
set_option maxRecDepth 20000 in
theorem ggX5_exchange_X1_trade : GoodIn wsX5_exchange wsX1_trade := goodIn_r _ [117, 26, 27, 118, 85, 119, 23, 24, 19, 25, 28, 29, 30, 31, 32, 33, 34, 17, 18, 20, 21, 35, 36, 37, 38, 39, 40, 41, 42, 43, 44, 45, 46, 47, 48, 49, 50, 51, 52, 53, 54, 55, 56, 57, 58, 59, 60, 61, 62, 120, 121, 122, 123, 124, 125, 126, 127, 145, 146, 147, 148, 149, 150, 151, 152, 153, 134, 135, 136, 137, 138, 139, 140, 141, 142, 143, 144, 154, 155, 156, 157, 158] (by decide +kernel) (by decide +kernel)
set_option maxRecDepth 20000 in
theorem gX5_exchange_X1_trade : GoodIn wsX5_exchange (wsV RX5 159 RX1 yX1_trade wsX1_trade) := goodIn_app (goodIn_of _ (by decide +kernel)) ggX5_exchange_X1_trade
theorem dX5_exchange_0 : decode cX5_exchange 0 = .ok (.aload_n 0, 1) := by decide +kernel
theorem dX5_exchange_1 : decode cX5_exchange 1 = .ok (.iload_n 1, 1) := by decide +kernel
theorem dX5_exchange_2 : decode cX5_exchange 2 = .ok (.iload_n 2, 1) := by decide +kernel
theorem dX5_exchange_3 : decode cX5_exchange 3 = .ok (.invokevirtual 155, 3) := by decide +kernel
theorem dX5_exchange_6 : decode cX5_exchange 6 = .ok (.aload_n 0, 1) := by decide +kernel
theorem dX5_exchange_7 : decode cX5_exchange 7 = .ok (.getfield 29, 3) := by decide +kernel
theorem dX5_exchange_10 : decode cX5_exchange 10 = .ok (.aload_n 0, 1) := by decide +kernel
theorem dX5_exchange_11 : decode cX5_exchange 11 = .ok (.getfield 10, 3) := by decide +kernel
theorem dX5_exchange_14 : decode cX5_exchange 14 = .ok (.invokevirtual 130, 3) := by decide +kernel
theorem dX5_exchange_17 : decode cX5_exchange 17 = .ok (.aload_n 0, 1) := by decide +kernel
theorem dX5_exchange_18 : decode cX5_exchange 18 = .ok (.getfield 10, 3) := by decide +kernel
theorem dX5_exchange_21 : decode cX5_exchange 21 = .ok (.iload_n 1, 1) := by decide +kernel
theorem dX5_exchange_22 : decode cX5_exchange 22 = .ok (.iload_n 2, 1) := by decide +kernel
theorem dX5_exchange_23 : decode cX5_exchange 23 = .ok (.invokevirtual 159, 3) := by decide +kernel
theorem dX5_exchange_26 : decode cX5_exchange 26 = .ok (.ireturn, 1) := by decide +kernel
set_option maxRecDepth 20000 in
theorem ggX5_jump_X5_requirePerson : GoodIn wsX5_jump wsX5_requirePerson := goodIn_ca (goodIn_r _ [9, 10, 11, 3, 12, 13, 14, 15, 16, 17, 138, 139, 140, 141, 142, 143, 144, 145, 146, 147, 148, 149, 150, 151, 152, 153, 154] (by decide +kernel) (by decide +kernel)) (goodIn_sub (fun _ h => List.mem_cons_of_mem _ (List.mem_append_right _ h)) (by decide +kernel))
set_option maxRecDepth 20000 in
theorem gX5_jump_X5_requirePerson : GoodIn wsX5_jump (wsV RX5 109 RX5 yX5_requirePerson wsX5_requirePerson) := goodIn_app (goodIn_of _ (by decide +kernel)) ggX5_jump_X5_requirePerson
set_option maxRecDepth 20000 in
theorem ggX5_jump_X1_mayPass : GoodIn wsX5_jump wsX1_mayPass := goodIn_r _ [21, 22, 23, 24, 25, 26, 27, 15, 28, 29, 30, 13, 14, 16, 17, 31, 32, 33, 34, 35, 36, 37, 38, 39, 40, 41, 42, 43, 44, 45, 46, 47, 48, 49, 50, 51, 52, 53, 54, 155, 156, 157, 158, 159, 160, 161, 162, 163, 144, 145, 146, 147, 148, 149, 150, 151, 152, 153, 154, 164, 165, 166, 167, 168] (by decide +kernel) (by decide +kernel)
set_option maxRecDepth 20000 in
theorem gX5_jump_X1_mayPass : GoodIn wsX5_jump (wsV RX5 162 RX1 yX1_mayPass wsX1_mayPass) := goodIn_app (goodIn_of _ (by decide +kernel)) ggX5_jump_X1_mayPass
set_option maxRecDepth 20000 in
theorem ggX5_jump_X2_remember : GoodIn wsX5_jump wsX2_remember := goodIn_r _ [59, 60, 61, 62, 63, 64, 58, 65, 66, 67, 68, 69, 70, 71, 72, 73, 15, 74, 75, 17, 23, 76, 77, 78, 79, 80, 81, 82, 83, 46, 35, 42, 43, 44, 45, 47, 84, 85, 86, 51, 87, 88, 89, 90, 53, 54, 91, 31, 32, 33, 34, 36, 92, 93, 94, 95, 96, 97, 98, 99, 100, 101, 102, 103, 104, 105, 169, 170, 171, 144, 145, 146, 147, 148, 149, 150, 151, 152, 153, 154, 164, 165, 166, 167, 168, 155, 156, 157, 158, 159, 160, 161, 162, 163] (by decide +kernel) (by decide +kernel)
set_option maxRecDepth 20000 in
theorem gX5_jump_X2_remember : GoodIn wsX5_jump (wsV RX5 130 RX2 yX2_remember wsX2_remember) := goodIn_app (goodIn_of _ (by decide +kernel)) ggX5_jump_X2_remember
set_option maxRecDepth 20000 in
theorem ggX5_jump_X1_pass : GoodIn wsX5_jump wsX1_pass := goodIn_r _ [109, 41, 79, 110, 111, 112, 113, 114, 23, 24, 77, 115, 19, 20, 15, 21, 22, 25, 26, 27, 28, 29, 30, 13, 14, 16, 17, 31, 32, 33, 34, 35, 36, 37, 38, 39, 40, 42, 43, 44, 45, 46, 47, 48, 49, 50, 51, 52, 53, 54, 116, 117, 118, 119, 120, 121, 122, 123, 124, 125, 126, 127, 128, 129, 130, 131, 132, 133, 78, 134, 135, 136, 137, 155, 156, 157, 158, 159, 160, 161, 162, 163, 144, 145, 146, 147, 148, 149, 150, 151, 152, 153, 154, 164, 165, 166, 167, 168] (by decide +kernel) (by decide +kernel)
set_option maxRecDepth 20000 in
theorem gX5_jump_X1_pass : GoodIn wsX5_jump (wsV RX5 167 RX1 yX1_pass wsX1_pass) := goodIn_app (goodIn_of _ (by decide +kernel)) ggX5_jump_X1_pass
theorem dX5_jump_0 : decode cX5_jump 0 = .ok (.aload_n 0, 1) := by decide +kernel
theorem dX5_jump_1 : decode cX5_jump 1 = .ok (.iload_n 1, 1) := by decide +kernel
theorem dX5_jump_2 : decode cX5_jump 2 = .ok (.invokevirtual 109, 3) := by decide +kernel
theorem dX5_jump_5 : decode cX5_jump 5 = .ok (.aload_n 0, 1) := by decide +kernel
theorem dX5_jump_6 : decode cX5_jump 6 = .ok (.getfield 10, 3) := by decide +kernel
theorem dX5_jump_9 : decode cX5_jump 9 = .ok (.iload_n 1, 1) := by decide +kernel
theorem dX5_jump_10 : decode cX5_jump 10 = .ok (.invokevirtual 162, 3) := by decide +kernel
theorem dX5_jump_13 : decode cX5_jump 13 = .ok (.ifCond .ne 13, 3) := by decide +kernel
theorem dX5_jump_16 : decode cX5_jump 16 = .ok (.new 59, 3) := by decide +kernel
theorem dX5_jump_19 : decode cX5_jump 19 = .ok (.dup, 1) := by decide +kernel
theorem dX5_jump_20 : decode cX5_jump 20 = .ok (.ldc 165, 2) := by decide +kernel
theorem dX5_jump_22 : decode cX5_jump 22 = .ok (.invokespecial 63, 3) := by decide +kernel
theorem dX5_jump_25 : decode cX5_jump 25 = .ok (.athrow, 1) := by decide +kernel
theorem dX5_jump_26 : decode cX5_jump 26 = .ok (.aload_n 0, 1) := by decide +kernel
theorem dX5_jump_27 : decode cX5_jump 27 = .ok (.getfield 29, 3) := by decide +kernel
theorem dX5_jump_30 : decode cX5_jump 30 = .ok (.aload_n 0, 1) := by decide +kernel
theorem dX5_jump_31 : decode cX5_jump 31 = .ok (.getfield 10, 3) := by decide +kernel
theorem dX5_jump_34 : decode cX5_jump 34 = .ok (.invokevirtual 130, 3) := by decide +kernel
theorem dX5_jump_37 : decode cX5_jump 37 = .ok (.aload_n 0, 1) := by decide +kernel
theorem dX5_jump_38 : decode cX5_jump 38 = .ok (.getfield 10, 3) := by decide +kernel
theorem dX5_jump_41 : decode cX5_jump 41 = .ok (.iload_n 1, 1) := by decide +kernel
theorem dX5_jump_42 : decode cX5_jump 42 = .ok (.invokevirtual 167, 3) := by decide +kernel
theorem dX5_jump_45 : decode cX5_jump 45 = .ok (.ireturn, 1) := by decide +kernel
set_option maxRecDepth 20000 in
theorem ggX5_merge_X5_requireUnion : GoodIn wsX5_merge wsX5_requireUnion := goodIn_ca (goodIn_ca (goodIn_ca (goodIn_r _ [7, 8, 9, 10, 11, 2, 12, 13, 14, 6, 15, 16, 17, 18, 19, 20, 21, 22, 23, 24, 25, 26, 27, 28, 29, 30, 31, 32, 33, 34, 35, 129, 130, 131, 132, 133, 134, 135, 136, 137, 138, 139, 140, 141, 142, 143, 144, 145, 146, 147, 148, 149, 150] (by decide +kernel) (by decide +kernel)) (goodIn_sub (fun _ h => List.mem_cons_of_mem _ (List.mem_append_left _ (List.mem_append_left _ (List.mem_append_right _ h)))) (by decide +kernel))) (goodIn_sub (fun _ h => List.mem_cons_of_mem _ (List.mem_append_left _ (List.mem_append_right _ h))) (by decide +kernel))) (goodIn_sub (fun _ h => List.mem_cons_of_mem _ (List.mem_append_right _ h)) (by decide +kernel))
set_option maxRecDepth 20000 in
theorem gX5_merge_X5_requireUnion : GoodIn wsX5_merge (wsV RX5 170 RX5 yX5_requireUnion wsX5_requireUnion) := goodIn_app (goodIn_of _ (by decide +kernel)) ggX5_merge_X5_requireUnion
set_option maxRecDepth 20000 in
theorem ggX5_merge_X2_remember : GoodIn wsX5_merge wsX2_remember := goodIn_r _ [40, 41, 42, 43, 44, 45, 39, 46, 47, 48, 49, 50, 51, 52, 53, 54, 21, 55, 23, 56, 57, 58, 59, 60, 61, 62, 63, 64, 65, 34, 66, 30, 31, 32, 33, 35, 67, 68, 69, 70, 71, 72, 73, 74, 75, 76, 77, 78, 79, 80, 81, 82, 83, 84, 85, 86, 87, 88, 89, 90, 91, 92, 93, 94, 95, 96, 151, 152, 153, 135, 136, 137, 138, 139, 140, 141, 142, 143, 144, 145, 146, 147, 148, 149, 150, 154, 155, 156, 157, 158, 159, 160, 161, 162] (by decide +kernel) (by decide +kernel)
set_option maxRecDepth 20000 in
theorem gX5_merge_X2_remember : GoodIn wsX5_merge (wsV RX5 130 RX2 yX2_remember wsX2_remember) := goodIn_app (goodIn_of _ (by decide +kernel)) ggX5_merge_X2_remember
set_option maxRecDepth 20000 in
theorem ggX5_merge_X1_unite : GoodIn wsX5_merge wsX1_unite := goodIn_r _ [100, 28, 101, 102, 103, 25, 26, 21, 27, 29, 19, 20, 22, 23, 30, 31, 32, 33, 34, 35, 104, 105, 106, 70, 107, 76, 108, 109, 110, 111, 75, 78, 79, 80, 81, 66, 82, 112, 113, 114, 115, 116, 117, 118, 119, 120, 121, 122, 123, 124, 125, 126, 127, 128, 146, 147, 148, 149, 150, 154, 155, 156, 157, 158, 159, 160, 161, 162, 135, 136, 137, 138, 139, 140, 141, 142, 143, 144, 145] (by decide +kernel) (by decide +kernel)
set_option maxRecDepth 20000 in
theorem gX5_merge_X1_unite : GoodIn wsX5_merge (wsV RX5 173 RX1 yX1_unite wsX1_unite) := goodIn_app (goodIn_of _ (by decide +kernel)) ggX5_merge_X1_unite
theorem dX5_merge_0 : decode cX5_merge 0 = .ok (.aload_n 0, 1) := by decide +kernel
theorem dX5_merge_1 : decode cX5_merge 1 = .ok (.iload_n 1, 1) := by decide +kernel
theorem dX5_merge_2 : decode cX5_merge 2 = .ok (.iload_n 2, 1) := by decide +kernel
theorem dX5_merge_3 : decode cX5_merge 3 = .ok (.invokevirtual 170, 3) := by decide +kernel
theorem dX5_merge_6 : decode cX5_merge 6 = .ok (.aload_n 0, 1) := by decide +kernel
theorem dX5_merge_7 : decode cX5_merge 7 = .ok (.getfield 29, 3) := by decide +kernel
theorem dX5_merge_10 : decode cX5_merge 10 = .ok (.aload_n 0, 1) := by decide +kernel
theorem dX5_merge_11 : decode cX5_merge 11 = .ok (.getfield 10, 3) := by decide +kernel
theorem dX5_merge_14 : decode cX5_merge 14 = .ok (.invokevirtual 130, 3) := by decide +kernel
theorem dX5_merge_17 : decode cX5_merge 17 = .ok (.aload_n 0, 1) := by decide +kernel
theorem dX5_merge_18 : decode cX5_merge 18 = .ok (.getfield 10, 3) := by decide +kernel
theorem dX5_merge_21 : decode cX5_merge 21 = .ok (.iload_n 1, 1) := by decide +kernel
theorem dX5_merge_22 : decode cX5_merge 22 = .ok (.iload_n 2, 1) := by decide +kernel
theorem dX5_merge_23 : decode cX5_merge 23 = .ok (.invokevirtual 173, 3) := by decide +kernel
theorem dX5_merge_26 : decode cX5_merge 26 = .ok (.ireturn, 1) := by decide +kernel
set_option maxRecDepth 20000 in
theorem ggX5_minutes_X2_remember : GoodIn wsX5_minutes wsX2_remember := goodIn_r _ [9, 10, 11, 12, 13, 14, 8, 15, 16, 17, 18, 19, 20, 21, 22, 23, 24, 25, 26, 27, 28, 29, 30, 31, 32, 33, 34, 35, 36, 37, 38, 39, 40, 41, 42, 43, 44, 45, 46, 47, 48, 49, 50, 51, 52, 53, 54, 55, 56, 57, 58, 59, 60, 61, 62, 63, 64, 65, 66, 67, 68, 69, 70, 71, 72, 73, 132, 133, 134, 135, 136, 137, 138, 139, 140, 141, 142, 143, 144, 145, 146, 147, 148, 149, 150, 151, 152, 153, 154, 155, 156, 157, 158, 159] (by decide +kernel) (by decide +kernel)
set_option maxRecDepth 20000 in
theorem gX5_minutes_X2_remember : GoodIn wsX5_minutes (wsV RX5 130 RX2 yX2_remember wsX2_remember) := goodIn_app (goodIn_of _ (by decide +kernel)) ggX5_minutes_X2_remember
set_option maxRecDepth 20000 in
theorem ggX5_minutes_X1_letPass : GoodIn wsX5_minutes wsX1_letPass := goodIn_r _ [77, 28, 26, 78, 79, 80, 24, 81, 27, 82, 83, 84, 85, 86, 87, 88, 89, 90, 91, 55, 56, 57, 58, 38, 59, 39, 40, 41, 42, 37, 43, 92, 93, 94, 95, 96, 97, 98, 99, 100, 101, 102, 47, 103, 53, 104, 105, 106, 107, 52, 108, 109, 110, 63, 111, 66, 67, 112, 113, 114, 115, 116, 117, 118, 119, 32, 120, 121, 122, 123, 124, 125, 31, 135, 136, 137, 138, 139, 140, 141, 142, 143, 144, 145, 151, 152, 153, 154, 155, 156, 157, 158, 159, 146, 147, 148, 149, 150] (by decide +kernel) (by decide +kernel)
set_option maxRecDepth 20000 in
theorem gX5_minutes_X1_letPass : GoodIn wsX5_minutes (wsV RX5 178 RX1 yX1_letPass wsX1_letPass) := goodIn_app (goodIn_of _ (by decide +kernel)) ggX5_minutes_X1_letPass
theorem dX5_minutes_0 : decode cX5_minutes 0 = .ok (.iload_n 1, 1) := by decide +kernel
theorem dX5_minutes_1 : decode cX5_minutes 1 = .ok (.iconst 1, 1) := by decide +kernel
theorem dX5_minutes_2 : decode cX5_minutes 2 = .ok (.if_icmp .lt 9, 3) := by decide +kernel
theorem dX5_minutes_5 : decode cX5_minutes 5 = .ok (.iload_n 1, 1) := by decide +kernel
theorem dX5_minutes_6 : decode cX5_minutes 6 = .ok (.bipush 60, 2) := by decide +kernel
theorem dX5_minutes_8 : decode cX5_minutes 8 = .ok (.if_icmp .le 13, 3) := by decide +kernel
theorem dX5_minutes_11 : decode cX5_minutes 11 = .ok (.new 48, 3) := by decide +kernel
theorem dX5_minutes_14 : decode cX5_minutes 14 = .ok (.dup, 1) := by decide +kernel
theorem dX5_minutes_15 : decode cX5_minutes 15 = .ok (.ldc 176, 2) := by decide +kernel
theorem dX5_minutes_17 : decode cX5_minutes 17 = .ok (.invokespecial 52, 3) := by decide +kernel
theorem dX5_minutes_20 : decode cX5_minutes 20 = .ok (.athrow, 1) := by decide +kernel
theorem dX5_minutes_21 : decode cX5_minutes 21 = .ok (.aload_n 0, 1) := by decide +kernel
theorem dX5_minutes_22 : decode cX5_minutes 22 = .ok (.getfield 29, 3) := by decide +kernel
theorem dX5_minutes_25 : decode cX5_minutes 25 = .ok (.aload_n 0, 1) := by decide +kernel
theorem dX5_minutes_26 : decode cX5_minutes 26 = .ok (.getfield 10, 3) := by decide +kernel
theorem dX5_minutes_29 : decode cX5_minutes 29 = .ok (.invokevirtual 130, 3) := by decide +kernel
theorem dX5_minutes_32 : decode cX5_minutes 32 = .ok (.aload_n 0, 1) := by decide +kernel
theorem dX5_minutes_33 : decode cX5_minutes 33 = .ok (.getfield 10, 3) := by decide +kernel
theorem dX5_minutes_36 : decode cX5_minutes 36 = .ok (.iload_n 1, 1) := by decide +kernel
theorem dX5_minutes_37 : decode cX5_minutes 37 = .ok (.invokevirtual 178, 3) := by decide +kernel
theorem dX5_minutes_40 : decode cX5_minutes 40 = .ok (.ireturn, 1) := by decide +kernel
set_option maxRecDepth 20000 in
theorem ggX5_set_X5_requireSetting : GoodIn wsX5_set wsX5_requireSetting := goodIn_ca (goodIn_r _ [10, 1, 2] (by decide +kernel) (by decide +kernel)) (goodIn_sub (fun _ h => List.mem_cons_of_mem _ (List.mem_append_right _ h)) (by decide +kernel))
set_option maxRecDepth 20000 in
theorem gX5_set_X5_requireSetting : GoodIn wsX5_set (va_wsS RX5 117 yX5_requireSetting wsX5_requireSetting) := goodIn_app (goodIn_of _ (by decide +kernel)) ggX5_set_X5_requireSetting
set_option maxRecDepth 20000 in
theorem ggX5_set_X2_remember : GoodIn wsX5_set wsX2_remember := goodIn_r _ [15, 16, 17, 18, 19, 20, 14, 21, 22, 23, 24, 25, 26, 27, 28, 29, 30, 31, 32, 33, 34, 35, 36, 37, 38, 39, 40, 41, 42, 43, 44, 45, 46, 47, 48, 49, 50, 51, 52, 53, 54, 55, 56, 57, 58, 59, 60, 61, 62, 63, 64, 65, 66, 67, 68, 69, 70, 71, 72, 73, 74, 75, 76, 77, 78, 79, 90, 91, 92, 93, 94, 95, 96, 97, 98, 99, 100, 101, 102, 103, 104, 105, 106, 107, 108, 109, 110, 111, 112, 113, 114, 115, 116, 117] (by decide +kernel) (by decide +kernel)
set_option maxRecDepth 20000 in
theorem gX5_set_X2_remember : GoodIn wsX5_set (wsV RX5 130 RX2 yX2_remember wsX2_remember) := goodIn_app (goodIn_of _ (by decide +kernel)) ggX5_set_X2_remember
set_option maxRecDepth 20000 in
theorem ggX5_set_X1_changeSetting : GoodIn wsX5_set wsX1_changeSetting := goodIn_r _ [83, 38, 93, 94, 95, 96, 97, 98, 99, 100, 101, 102, 103] (by decide +kernel) (by decide +kernel)
set_option maxRecDepth 20000 in
theorem gX5_set_X1_changeSetting : GoodIn wsX5_set (wsV RX5 190 RX1 yX1_changeSetting wsX1_changeSetting) := goodIn_app (goodIn_of _ (by decide +kernel)) ggX5_set_X1_changeSetting
theorem dX5_set_0 : decode cX5_set 0 = .ok (.iload_n 1, 1) := by decide +kernel
theorem dX5_set_1 : decode cX5_set 1 = .ok (.invokestatic 117, 3) := by decide +kernel
theorem dX5_set_4 : decode cX5_set 4 = .ok (.iload_n 2, 1) := by decide +kernel
theorem dX5_set_5 : decode cX5_set 5 = .ok (.getstatic 181, 3) := by decide +kernel
theorem dX5_set_8 : decode cX5_set 8 = .ok (.iload_n 1, 1) := by decide +kernel
theorem dX5_set_9 : decode cX5_set 9 = .ok (.iaload, 1) := by decide +kernel
theorem dX5_set_10 : decode cX5_set 10 = .ok (.if_icmp .lt 12, 3) := by decide +kernel
theorem dX5_set_13 : decode cX5_set 13 = .ok (.iload_n 2, 1) := by decide +kernel
theorem dX5_set_14 : decode cX5_set 14 = .ok (.getstatic 185, 3) := by decide +kernel
theorem dX5_set_17 : decode cX5_set 17 = .ok (.iload_n 1, 1) := by decide +kernel
theorem dX5_set_18 : decode cX5_set 18 = .ok (.iaload, 1) := by decide +kernel
theorem dX5_set_19 : decode cX5_set 19 = .ok (.if_icmp .le 13, 3) := by decide +kernel
theorem dX5_set_22 : decode cX5_set 22 = .ok (.new 48, 3) := by decide +kernel
theorem dX5_set_25 : decode cX5_set 25 = .ok (.dup, 1) := by decide +kernel
theorem dX5_set_26 : decode cX5_set 26 = .ok (.ldc 188, 2) := by decide +kernel
theorem dX5_set_28 : decode cX5_set 28 = .ok (.invokespecial 52, 3) := by decide +kernel
theorem dX5_set_31 : decode cX5_set 31 = .ok (.athrow, 1) := by decide +kernel
theorem dX5_set_32 : decode cX5_set 32 = .ok (.aload_n 0, 1) := by decide +kernel
theorem dX5_set_33 : decode cX5_set 33 = .ok (.getfield 29, 3) := by decide +kernel
theorem dX5_set_36 : decode cX5_set 36 = .ok (.aload_n 0, 1) := by decide +kernel
theorem dX5_set_37 : decode cX5_set 37 = .ok (.getfield 10, 3) := by decide +kernel
theorem dX5_set_40 : decode cX5_set 40 = .ok (.invokevirtual 130, 3) := by decide +kernel
theorem dX5_set_43 : decode cX5_set 43 = .ok (.aload_n 0, 1) := by decide +kernel
theorem dX5_set_44 : decode cX5_set 44 = .ok (.getfield 10, 3) := by decide +kernel
theorem dX5_set_47 : decode cX5_set 47 = .ok (.iload_n 1, 1) := by decide +kernel
theorem dX5_set_48 : decode cX5_set 48 = .ok (.iload_n 2, 1) := by decide +kernel
theorem dX5_set_49 : decode cX5_set 49 = .ok (.invokevirtual 190, 3) := by decide +kernel
theorem dX5_set_52 : decode cX5_set 52 = .ok (.ireturn, 1) := by decide +kernel
set_option maxRecDepth 20000 in
theorem ggX5_undo_X2_isEmpty : GoodIn wsX5_undo wsX2_isEmpty := goodIn_r _ [9, 10, 85, 86, 87] (by decide +kernel) (by decide +kernel)
set_option maxRecDepth 20000 in
theorem gX5_undo_X2_isEmpty : GoodIn wsX5_undo (wsV RX5 193 RX2 yX2_isEmpty wsX2_isEmpty) := goodIn_app (goodIn_of _ (by decide +kernel)) ggX5_undo_X2_isEmpty
set_option maxRecDepth 20000 in
theorem ggX5_undo_X2_takeBack : GoodIn wsX5_undo wsX2_takeBack := goodIn_r _ [14, 10, 15, 6, 7, 8, 9, 16, 17, 18, 19, 20, 21, 22, 23, 24, 25, 26, 27, 28, 29, 30, 31, 32, 33, 34, 35, 36, 37, 38, 39, 40, 41, 42, 43, 44, 45, 46, 47, 48, 49, 50, 51, 52, 53, 54, 55, 56, 57, 58, 59, 60, 61, 62, 63, 64, 65, 66, 67, 68, 69, 70, 71, 72, 73, 74, 75, 76, 77, 78, 85, 86, 87, 88, 89, 90, 91, 92, 93, 94, 95, 96, 97, 98, 99, 100, 101, 102, 103, 104, 105, 106, 107, 108, 109, 110, 111, 112] (by decide +kernel) (by decide +kernel)
set_option maxRecDepth 20000 in
theorem gX5_undo_X2_takeBack : GoodIn wsX5_undo (wsV RX5 198 RX2 yX2_takeBack wsX2_takeBack) := goodIn_app (goodIn_of _ (by decide +kernel)) ggX5_undo_X2_takeBack
theorem dX5_undo_0 : decode cX5_undo 0 = .ok (.aload_n 0, 1) := by decide +kernel
theorem dX5_undo_1 : decode cX5_undo 1 = .ok (.getfield 29, 3) := by decide +kernel
theorem dX5_undo_4 : decode cX5_undo 4 = .ok (.invokevirtual 193, 3) := by decide +kernel
theorem dX5_undo_7 : decode cX5_undo 7 = .ok (.ifCond .eq 13, 3) := by decide +kernel
theorem dX5_undo_10 : decode cX5_undo 10 = .ok (.new 59, 3) := by decide +kernel
theorem dX5_undo_13 : decode cX5_undo 13 = .ok (.dup, 1) := by decide +kernel
theorem dX5_undo_14 : decode cX5_undo 14 = .ok (.ldc 196, 2) := by decide +kernel
theorem dX5_undo_16 : decode cX5_undo 16 = .ok (.invokespecial 63, 3) := by decide +kernel
theorem dX5_undo_19 : decode cX5_undo 19 = .ok (.athrow, 1) := by decide +kernel
theorem dX5_undo_20 : decode cX5_undo 20 = .ok (.aload_n 0, 1) := by decide +kernel
theorem dX5_undo_21 : decode cX5_undo 21 = .ok (.getfield 29, 3) := by decide +kernel
theorem dX5_undo_24 : decode cX5_undo 24 = .ok (.aload_n 0, 1) := by decide +kernel
theorem dX5_undo_25 : decode cX5_undo 25 = .ok (.getfield 10, 3) := by decide +kernel
theorem dX5_undo_28 : decode cX5_undo 28 = .ok (.invokevirtual 198, 3) := by decide +kernel
theorem dX5_undo_31 : decode cX5_undo 31 = .ok (.ireturn, 1) := by decide +kernel
set_option maxRecDepth 20000 in
theorem ggX5_servedIn_X5_requireStanding : GoodIn wsX5_servedIn wsX5_requireStanding := goodIn_ca (goodIn_ca (goodIn_r _ [6, 7, 8, 1, 9, 10, 11, 5, 12, 13, 14, 15, 16, 17, 18, 19, 20, 21, 22, 23, 24, 25, 26, 27, 28, 29, 30, 31, 32, 61, 62, 63, 64, 65, 66, 67, 68, 69, 70, 71, 72, 73, 74, 75, 76, 77, 78, 79, 80, 81, 82, 83, 84, 85, 86] (by decide +kernel) (by decide +kernel)) (goodIn_sub (fun _ h => List.mem_cons_of_mem _ (List.mem_append_left _ (List.mem_append_right _ h))) (by decide +kernel))) (goodIn_sub (fun _ h => List.mem_cons_of_mem _ (List.mem_append_right _ h)) (by decide +kernel))
set_option maxRecDepth 20000 in
theorem gX5_servedIn_X5_requireStanding : GoodIn wsX5_servedIn (wsV RX5 149 RX5 yX5_requireStanding wsX5_requireStanding) := goodIn_app (goodIn_of _ (by decide +kernel)) ggX5_servedIn_X5_requireStanding
set_option maxRecDepth 20000 in
theorem ggX5_servedIn_X1_waitOf : GoodIn wsX5_servedIn wsX1_waitOf := goodIn_r _ [36, 37, 27, 28, 29, 18, 30, 31, 32, 38, 39, 40, 41, 42, 43, 44, 45, 46, 47, 48, 49, 50, 51, 52, 53, 54, 55, 56, 57, 58, 59, 60, 78, 79, 80, 81, 82, 83, 84, 85, 86, 67, 68, 69, 70, 71, 72, 73, 74, 75, 76, 77, 87, 88, 89, 90, 91] (by decide +kernel) (by decide +kernel)
set_option maxRecDepth 20000 in
theorem gX5_servedIn_X1_waitOf : GoodIn wsX5_servedIn (wsV RX5 201 RX1 yX1_waitOf wsX1_waitOf) := goodIn_app (goodIn_of _ (by decide +kernel)) ggX5_servedIn_X1_waitOf
theorem dX5_servedIn_0 : decode cX5_servedIn 0 = .ok (.aload_n 0, 1) := by decide +kernel
theorem dX5_servedIn_1 : decode cX5_servedIn 1 = .ok (.iload_n 1, 1) := by decide +kernel
theorem dX5_servedIn_2 : decode cX5_servedIn 2 = .ok (.invokevirtual 149, 3) := by decide +kernel
theorem dX5_servedIn_5 : decode cX5_servedIn 5 = .ok (.aload_n 0, 1) := by decide +kernel
theorem dX5_servedIn_6 : decode cX5_servedIn 6 = .ok (.getfield 10, 3) := by decide +kernel
theorem dX5_servedIn_9 : decode cX5_servedIn 9 = .ok (.iload_n 1, 1) := by decide +kernel
theorem dX5_servedIn_10 : decode cX5_servedIn 10 = .ok (.invokevirtual 201, 3) := by decide +kernel
theorem dX5_servedIn_13 : decode cX5_servedIn 13 = .ok (.ireturn, 1) := by decide +kernel
set_option maxRecDepth 20000 in
theorem ggX5_willPay_X1_feesWithin : GoodIn wsX5_willPay wsX1_feesWithin := goodIn_r _ [8, 9, 10, 11, 12, 13, 14, 15, 16, 17, 18, 7, 19, 20, 21, 22, 23, 24, 25, 26, 27, 28, 29, 30, 31, 32, 33, 34, 35, 36, 37, 38, 39, 40, 41, 42, 43, 44, 45, 46, 47, 48, 49, 50, 51, 52, 53, 54, 55, 56, 57, 58, 59, 60, 61, 62, 69, 70, 71, 72, 73, 74, 75, 76, 77, 78, 79, 80, 81, 82, 83, 84, 85, 86, 87, 88, 89, 90, 91, 92, 93] (by decide +kernel) (by decide +kernel)
set_option maxRecDepth 20000 in
theorem gX5_willPay_X1_feesWithin : GoodIn wsX5_willPay (wsV RX5 206 RX1 yX1_feesWithin wsX1_feesWithin) := goodIn_app (goodIn_of _ (by decide +kernel)) ggX5_willPay_X1_feesWithin
theorem dX5_willPay_0 : decode cX5_willPay 0 = .ok (.iload_n 1, 1) := by decide +kernel
theorem dX5_willPay_1 : decode cX5_willPay 1 = .ok (.iconst 1, 1) := by decide +kernel
theorem dX5_willPay_2 : decode cX5_willPay 2 = .ok (.if_icmp .lt 10, 3) := by decide +kernel
theorem dX5_willPay_5 : decode cX5_willPay 5 = .ok (.iload_n 1, 1) := by decide +kernel
theorem dX5_willPay_6 : decode cX5_willPay 6 = .ok (.sipush 999, 3) := by decide +kernel
theorem dX5_willPay_9 : decode cX5_willPay 9 = .ok (.if_icmp .le 13, 3) := by decide +kernel
theorem dX5_willPay_12 : decode cX5_willPay 12 = .ok (.new 48, 3) := by decide +kernel
theorem dX5_willPay_15 : decode cX5_willPay 15 = .ok (.dup, 1) := by decide +kernel
theorem dX5_willPay_16 : decode cX5_willPay 16 = .ok (.ldc 204, 2) := by decide +kernel
theorem dX5_willPay_18 : decode cX5_willPay 18 = .ok (.invokespecial 52, 3) := by decide +kernel
theorem dX5_willPay_21 : decode cX5_willPay 21 = .ok (.athrow, 1) := by decide +kernel
theorem dX5_willPay_22 : decode cX5_willPay 22 = .ok (.aload_n 0, 1) := by decide +kernel
theorem dX5_willPay_23 : decode cX5_willPay 23 = .ok (.getfield 10, 3) := by decide +kernel
theorem dX5_willPay_26 : decode cX5_willPay 26 = .ok (.iload_n 1, 1) := by decide +kernel
theorem dX5_willPay_27 : decode cX5_willPay 27 = .ok (.invokevirtual 206, 3) := by decide +kernel
theorem dX5_willPay_30 : decode cX5_willPay 30 = .ok (.ireturn, 1) := by decide +kernel
