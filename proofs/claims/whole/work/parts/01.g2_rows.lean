theorem dX5_setting_0 : decode cX5_setting 0 = .ok (.iload_n 1, 1) := by decide +kernel
theorem dX5_setting_1 : decode cX5_setting 1 = .ok (.invokestatic 117, 3) := by decide +kernel
theorem dX5_setting_4 : decode cX5_setting 4 = .ok (.aload_n 0, 1) := by decide +kernel
theorem dX5_setting_5 : decode cX5_setting 5 = .ok (.getfield 10, 3) := by decide +kernel
theorem dX5_setting_8 : decode cX5_setting 8 = .ok (.iload_n 1, 1) := by decide +kernel
theorem dX5_setting_9 : decode cX5_setting 9 = .ok (.invokevirtual 120, 3) := by decide +kernel
theorem dX5_setting_12 : decode cX5_setting 12 = .ok (.ireturn, 1) := by decide +kernel
set_option maxRecDepth 20000 in
theorem ggX5_open_X1_hasAllLines : GoodIn wsX5_open wsX1_hasAllLines := goodIn_r _ [11, 12, 95, 96, 97, 98, 99, 100, 101, 102, 103, 104, 105] (by decide +kernel) (by decide +kernel)
set_option maxRecDepth 20000 in
theorem gX5_open_X1_hasAllLines : GoodIn wsX5_open (wsV RX5 125 RX1 yX1_hasAllLines wsX1_hasAllLines) := goodIn_app (goodIn_of _ (by decide +kernel)) ggX5_open_X1_hasAllLines
set_option maxRecDepth 20000 in
theorem ggX5_open_X2_remember_h : GoodIn wsX5_open [.code yX2_remember cX2_remember 2 none] := goodIn_r _ [17] (by decide +kernel) (by decide +kernel)
set_option maxRecDepth 20000 in
theorem ggX5_open_X2_remember_0 : GoodIn wsX5_open wsX2_remember_r1 := goodIn_r _ [18, 19, 20, 21, 22, 16, 23, 24, 25, 26, 27, 28, 29, 30, 31, 10, 32, 12, 33, 34, 35, 36, 37, 38] (by decide +kernel) (by decide +kernel)
set_option maxRecDepth 20000 in
theorem ggX5_open_X2_remember_1 : GoodIn wsX5_open wsX2_remember_r2 := goodIn_r _ [39, 40, 41, 42, 43, 44, 45, 46, 47, 48, 49, 50, 51, 52, 53, 54, 55, 56, 57, 58, 59, 60, 61, 62] (by decide +kernel) (by decide +kernel)
set_option maxRecDepth 20000 in
theorem ggX5_open_X2_remember_2 : GoodIn wsX5_open wsX2_remember_r3 := goodIn_r _ [63, 64, 65, 66, 67, 68, 69, 70, 71, 72, 73, 74, 75, 76, 77, 78, 79] (by decide +kernel) (by decide +kernel)
set_option maxRecDepth 20000 in
theorem ggX5_open_X2_remember_3 : GoodIn wsX5_open wsX20 := goodIn_r _ [106, 107, 108] (by decide +kernel) (by decide +kernel)
set_option maxRecDepth 20000 in
theorem ggX5_open_X2_remember_4 : GoodIn wsX5_open wsX10 := goodIn_r _ [95, 96, 97, 98, 99, 100, 101, 102, 103, 104, 105] (by decide +kernel) (by decide +kernel)
set_option maxRecDepth 20000 in
theorem ggX5_open_X2_remember_5 : GoodIn wsX5_open wsX30 := goodIn_r _ [109, 110, 111, 112, 113] (by decide +kernel) (by decide +kernel)
set_option maxRecDepth 20000 in
theorem ggX5_open_X2_remember_6 : GoodIn wsX5_open wsX40 := goodIn_r _ [114, 115, 116, 117, 118, 119, 120, 121, 122] (by decide +kernel) (by decide +kernel)
set_option maxRecDepth 20000 in
theorem ggX5_open_X2_remember : GoodIn wsX5_open wsX2_remember := goodIn_c1 ggX5_open_X2_remember_h (goodIn_app (goodIn_app (goodIn_app (goodIn_app (goodIn_app ggX5_open_X2_remember_0 (goodIn_app ggX5_open_X2_remember_1 ggX5_open_X2_remember_2)) ggX5_open_X2_remember_3) ggX5_open_X2_remember_4) ggX5_open_X2_remember_5) ggX5_open_X2_remember_6)
set_option maxRecDepth 20000 in
theorem gX5_open_X2_remember : GoodIn wsX5_open (wsV RX5 130 RX2 yX2_remember wsX2_remember) := goodIn_app (goodIn_of _ (by decide +kernel)) ggX5_open_X2_remember
set_option maxRecDepth 20000 in
theorem ggX5_open_X1_addLine : GoodIn wsX5_open wsX1_addLine := goodIn_r _ [83, 12, 84, 8, 9, 10, 11, 45, 46, 47, 48, 43, 49, 85, 86, 87, 53, 88, 55, 56, 57, 58, 95, 96, 97, 98, 99, 100, 101, 102, 103, 104, 105, 109, 110, 111, 112, 113] (by decide +kernel) (by decide +kernel)
set_option maxRecDepth 20000 in
theorem gX5_open_X1_addLine : GoodIn wsX5_open (wsV RX5 19 RX1 yX1_addLine wsX1_addLine) := goodIn_app (goodIn_of _ (by decide +kernel)) ggX5_open_X1_addLine
theorem dX5_open_0 : decode cX5_open 0 = .ok (.iload_n 1, 1) := by decide +kernel
theorem dX5_open_1 : decode cX5_open 1 = .ok (.iconst 1, 1) := by decide +kernel
theorem dX5_open_2 : decode cX5_open 2 = .ok (.if_icmp .lt 9, 3) := by decide +kernel
theorem dX5_open_5 : decode cX5_open 5 = .ok (.iload_n 1, 1) := by decide +kernel
theorem dX5_open_6 : decode cX5_open 6 = .ok (.bipush 20, 2) := by decide +kernel
theorem dX5_open_8 : decode cX5_open 8 = .ok (.if_icmp .le 13, 3) := by decide +kernel
theorem dX5_open_11 : decode cX5_open 11 = .ok (.new 48, 3) := by decide +kernel
theorem dX5_open_14 : decode cX5_open 14 = .ok (.dup, 1) := by decide +kernel
theorem dX5_open_15 : decode cX5_open 15 = .ok (.ldc 123, 2) := by decide +kernel
theorem dX5_open_17 : decode cX5_open 17 = .ok (.invokespecial 52, 3) := by decide +kernel
theorem dX5_open_20 : decode cX5_open 20 = .ok (.athrow, 1) := by decide +kernel
theorem dX5_open_21 : decode cX5_open 21 = .ok (.aload_n 0, 1) := by decide +kernel
theorem dX5_open_22 : decode cX5_open 22 = .ok (.getfield 10, 3) := by decide +kernel
theorem dX5_open_25 : decode cX5_open 25 = .ok (.invokevirtual 125, 3) := by decide +kernel
theorem dX5_open_28 : decode cX5_open 28 = .ok (.ifCond .eq 13, 3) := by decide +kernel
theorem dX5_open_31 : decode cX5_open 31 = .ok (.new 59, 3) := by decide +kernel
theorem dX5_open_34 : decode cX5_open 34 = .ok (.dup, 1) := by decide +kernel
theorem dX5_open_35 : decode cX5_open 35 = .ok (.ldc 128, 2) := by decide +kernel
theorem dX5_open_37 : decode cX5_open 37 = .ok (.invokespecial 63, 3) := by decide +kernel
theorem dX5_open_40 : decode cX5_open 40 = .ok (.athrow, 1) := by decide +kernel
theorem dX5_open_41 : decode cX5_open 41 = .ok (.aload_n 0, 1) := by decide +kernel
theorem dX5_open_42 : decode cX5_open 42 = .ok (.getfield 29, 3) := by decide +kernel
theorem dX5_open_45 : decode cX5_open 45 = .ok (.aload_n 0, 1) := by decide +kernel
theorem dX5_open_46 : decode cX5_open 46 = .ok (.getfield 10, 3) := by decide +kernel
theorem dX5_open_49 : decode cX5_open 49 = .ok (.invokevirtual 130, 3) := by decide +kernel
theorem dX5_open_52 : decode cX5_open 52 = .ok (.aload_n 0, 1) := by decide +kernel
theorem dX5_open_53 : decode cX5_open 53 = .ok (.getfield 10, 3) := by decide +kernel
theorem dX5_open_56 : decode cX5_open 56 = .ok (.iload_n 1, 1) := by decide +kernel
theorem dX5_open_57 : decode cX5_open 57 = .ok (.invokevirtual 19, 3) := by decide +kernel
theorem dX5_open_60 : decode cX5_open 60 = .ok (.ireturn, 1) := by decide +kernel
set_option maxRecDepth 20000 in
theorem ggX5_come_X5_requireLine : GoodIn wsX5_come wsX5_requireLine := goodIn_ca (goodIn_r _ [11, 12, 13, 5, 14, 15, 16, 17, 18, 19, 109, 110, 111, 112, 113, 114, 115, 116, 117, 118, 119, 120, 121, 122, 123, 124, 125] (by decide +kernel) (by decide +kernel)) (goodIn_sub (fun _ h => List.mem_cons_of_mem _ (List.mem_append_right _ h)) (by decide +kernel))
set_option maxRecDepth 20000 in
theorem gX5_come_X5_requireLine : GoodIn wsX5_come (wsV RX5 88 RX5 yX5_requireLine wsX5_requireLine) := goodIn_app (goodIn_of _ (by decide +kernel)) ggX5_come_X5_requireLine
set_option maxRecDepth 20000 in
theorem ggX5_come_X5_isKind : GoodIn wsX5_come wsX5_isKind := goodIn_r _ [22] (by decide +kernel) (by decide +kernel)
set_option maxRecDepth 20000 in
theorem gX5_come_X5_isKind : GoodIn wsX5_come (va_wsS RX5 134 yX5_isKind wsX5_isKind) := goodIn_app (goodIn_of _ (by decide +kernel)) ggX5_come_X5_isKind
set_option maxRecDepth 20000 in
theorem ggX5_come_X1_mayEnter : GoodIn wsX5_come wsX1_mayEnter := goodIn_r _ [26, 27, 28, 29, 15, 16, 17, 18, 19, 21, 10, 22, 30, 31, 32, 33, 34, 35, 115, 116, 117, 118, 119, 120, 121, 122, 123, 124, 125, 126, 127, 128, 129, 130] (by decide +kernel) (by decide +kernel)
set_option maxRecDepth 20000 in
theorem gX5_come_X1_mayEnter : GoodIn wsX5_come (wsV RX5 140 RX1 yX1_mayEnter wsX1_mayEnter) := goodIn_app (goodIn_of _ (by decide +kernel)) ggX5_come_X1_mayEnter
set_option maxRecDepth 20000 in
theorem ggX5_come_X2_remember_h : GoodIn wsX5_come [.code yX2_remember cX2_remember 2 none] := goodIn_r _ [40] (by decide +kernel) (by decide +kernel)
set_option maxRecDepth 20000 in
theorem ggX5_come_X2_remember_0 : GoodIn wsX5_come wsX2_remember_r1 := goodIn_r _ [41, 42, 43, 44, 45, 39, 46, 47, 48, 49, 50, 51, 52, 53, 54, 17, 55, 19, 27, 56, 57, 58, 59, 60] (by decide +kernel) (by decide +kernel)
set_option maxRecDepth 20000 in
theorem ggX5_come_X2_remember_1 : GoodIn wsX5_come wsX2_remember_r2 := goodIn_r _ [61, 62, 63, 64, 34, 65, 30, 31, 32, 33, 35, 66, 67, 68, 69, 70, 71, 72, 73, 74, 75, 76, 77, 78] (by decide +kernel) (by decide +kernel)
set_option maxRecDepth 20000 in
theorem ggX5_come_X2_remember_2 : GoodIn wsX5_come wsX2_remember_r3 := goodIn_r _ [79, 80, 81, 82, 83, 84, 85, 86, 87, 88, 89, 90, 91, 92, 93, 94, 95] (by decide +kernel) (by decide +kernel)
set_option maxRecDepth 20000 in
theorem ggX5_come_X2_remember_3 : GoodIn wsX5_come wsX20 := goodIn_r _ [131, 132, 133] (by decide +kernel) (by decide +kernel)
set_option maxRecDepth 20000 in
theorem ggX5_come_X2_remember_4 : GoodIn wsX5_come wsX10 := goodIn_r _ [115, 116, 117, 118, 119, 120, 121, 122, 123, 124, 125] (by decide +kernel) (by decide +kernel)
set_option maxRecDepth 20000 in
theorem ggX5_come_X2_remember_5 : GoodIn wsX5_come wsX30 := goodIn_r _ [126, 127, 128, 129, 130] (by decide +kernel) (by decide +kernel)
set_option maxRecDepth 20000 in
theorem ggX5_come_X2_remember_6 : GoodIn wsX5_come wsX40 := goodIn_r _ [134, 135, 136, 137, 138, 139, 140, 141, 142] (by decide +kernel) (by decide +kernel)
set_option maxRecDepth 20000 in
theorem ggX5_come_X2_remember : GoodIn wsX5_come wsX2_remember := goodIn_c1 ggX5_come_X2_remember_h (goodIn_app (goodIn_app (goodIn_app (goodIn_app (goodIn_app ggX5_come_X2_remember_0 (goodIn_app ggX5_come_X2_remember_1 ggX5_come_X2_remember_2)) ggX5_come_X2_remember_3) ggX5_come_X2_remember_4) ggX5_come_X2_remember_5) ggX5_come_X2_remember_6)
set_option maxRecDepth 20000 in
theorem gX5_come_X2_remember : GoodIn wsX5_come (wsV RX5 130 RX2 yX2_remember wsX2_remember) := goodIn_app (goodIn_of _ (by decide +kernel)) ggX5_come_X2_remember
set_option maxRecDepth 20000 in
theorem ggX5_come_X1_enter_h : GoodIn wsX5_come [.code yX1_enter cX1_enter 4 (some .int)] := goodIn_r _ [99] (by decide +kernel) (by decide +kernel)
set_option maxRecDepth 20000 in
theorem ggX5_come_X1_enter_0 : GoodIn wsX5_come wsX1_enter_r1 := goodIn_r _ [27, 56, 100, 24, 25, 17, 26, 28, 29, 15, 16, 18, 19, 21, 10, 22, 30, 31, 32, 33, 34, 35, 77, 78] (by decide +kernel) (by decide +kernel)
set_option maxRecDepth 20000 in
theorem ggX5_come_X1_enter_1 : GoodIn wsX5_come wsX1_enter_r2 := goodIn_r _ [79, 80, 65, 81, 101, 102, 103, 85, 104, 87, 88, 89, 90, 91, 92, 93, 94, 95, 105, 106, 107, 69, 108, 74] (by decide +kernel) (by decide +kernel)
set_option maxRecDepth 20000 in
theorem ggX5_come_X1_enter_2 : GoodIn wsX5_come wsX1_enter_r3 := goodIn_r _ [75] (by decide +kernel) (by decide +kernel)
set_option maxRecDepth 20000 in
theorem ggX5_come_X1_enter_3 : GoodIn wsX5_come wsX10 := goodIn_r _ [115, 116, 117, 118, 119, 120, 121, 122, 123, 124, 125] (by decide +kernel) (by decide +kernel)
set_option maxRecDepth 20000 in
theorem ggX5_come_X1_enter_4 : GoodIn wsX5_come wsX30 := goodIn_r _ [126, 127, 128, 129, 130] (by decide +kernel) (by decide +kernel)
set_option maxRecDepth 20000 in
theorem ggX5_come_X1_enter_5 : GoodIn wsX5_come wsX40 := goodIn_r _ [134, 135, 136, 137, 138, 139, 140, 141, 142] (by decide +kernel) (by decide +kernel)
set_option maxRecDepth 20000 in
theorem ggX5_come_X1_enter : GoodIn wsX5_come wsX1_enter := goodIn_c1 ggX5_come_X1_enter_h (goodIn_app (goodIn_app (goodIn_app (goodIn_app ggX5_come_X1_enter_0 (goodIn_app ggX5_come_X1_enter_1 ggX5_come_X1_enter_2)) ggX5_come_X1_enter_3) ggX5_come_X1_enter_4) ggX5_come_X1_enter_5)
set_option maxRecDepth 20000 in
theorem gX5_come_X1_enter : GoodIn wsX5_come (wsV RX5 146 RX1 yX1_enter wsX1_enter) := goodIn_app (goodIn_of _ (by decide +kernel)) ggX5_come_X1_enter
theorem dX5_come_0 : decode cX5_come 0 = .ok (.aload_n 0, 1) := by decide +kernel
theorem dX5_come_1 : decode cX5_come 1 = .ok (.iload_n 1, 1) := by decide +kernel
theorem dX5_come_2 : decode cX5_come 2 = .ok (.invokevirtual 88, 3) := by decide +kernel
theorem dX5_come_5 : decode cX5_come 5 = .ok (.iload_n 2, 1) := by decide +kernel
theorem dX5_come_6 : decode cX5_come 6 = .ok (.invokestatic 134, 3) := by decide +kernel
theorem dX5_come_9 : decode cX5_come 9 = .ok (.ifCond .ne 13, 3) := by decide +kernel
theorem dX5_come_12 : decode cX5_come 12 = .ok (.new 48, 3) := by decide +kernel
theorem dX5_come_15 : decode cX5_come 15 = .ok (.dup, 1) := by decide +kernel
theorem dX5_come_16 : decode cX5_come 16 = .ok (.ldc 138, 2) := by decide +kernel
theorem dX5_come_18 : decode cX5_come 18 = .ok (.invokespecial 52, 3) := by decide +kernel
theorem dX5_come_21 : decode cX5_come 21 = .ok (.athrow, 1) := by decide +kernel
theorem dX5_come_22 : decode cX5_come 22 = .ok (.aload_n 0, 1) := by decide +kernel
theorem dX5_come_23 : decode cX5_come 23 = .ok (.getfield 10, 3) := by decide +kernel
theorem dX5_come_26 : decode cX5_come 26 = .ok (.iload_n 1, 1) := by decide +kernel
theorem dX5_come_27 : decode cX5_come 27 = .ok (.iload_n 2, 1) := by decide +kernel
theorem dX5_come_28 : decode cX5_come 28 = .ok (.invokevirtual 140, 3) := by decide +kernel
theorem dX5_come_31 : decode cX5_come 31 = .ok (.ifCond .ne 13, 3) := by decide +kernel
theorem dX5_come_34 : decode cX5_come 34 = .ok (.new 59, 3) := by decide +kernel
theorem dX5_come_37 : decode cX5_come 37 = .ok (.dup, 1) := by decide +kernel
theorem dX5_come_38 : decode cX5_come 38 = .ok (.ldc 144, 2) := by decide +kernel
theorem dX5_come_40 : decode cX5_come 40 = .ok (.invokespecial 63, 3) := by decide +kernel
theorem dX5_come_43 : decode cX5_come 43 = .ok (.athrow, 1) := by decide +kernel
theorem dX5_come_44 : decode cX5_come 44 = .ok (.aload_n 0, 1) := by decide +kernel
theorem dX5_come_45 : decode cX5_come 45 = .ok (.getfield 29, 3) := by decide +kernel
theorem dX5_come_48 : decode cX5_come 48 = .ok (.aload_n 0, 1) := by decide +kernel
theorem dX5_come_49 : decode cX5_come 49 = .ok (.getfield 10, 3) := by decide +kernel
theorem dX5_come_52 : decode cX5_come 52 = .ok (.invokevirtual 130, 3) := by decide +kernel
theorem dX5_come_55 : decode cX5_come 55 = .ok (.aload_n 0, 1) := by decide +kernel
theorem dX5_come_56 : decode cX5_come 56 = .ok (.getfield 10, 3) := by decide +kernel
theorem dX5_come_59 : decode cX5_come 59 = .ok (.iload_n 1, 1) := by decide +kernel
theorem dX5_come_60 : decode cX5_come 60 = .ok (.iload_n 2, 1) := by decide +kernel
theorem dX5_come_61 : decode cX5_come 61 = .ok (.invokevirtual 146, 3) := by decide +kernel
theorem dX5_come_64 : decode cX5_come 64 = .ok (.ireturn, 1) := by decide +kernel
set_option maxRecDepth 20000 in
theorem ggX5_go_X5_requireStanding : GoodIn wsX5_go wsX5_requireStanding := goodIn_ca (goodIn_ca (goodIn_r _ [7, 8, 9, 2, 10, 11, 12, 6, 13, 14, 15, 16, 17, 18, 19, 20, 21, 22, 23, 24, 25, 26, 27, 28, 29, 30, 31, 32, 33, 122, 123, 124, 125, 126, 127, 128, 129, 130, 131, 132, 133, 134, 135, 136, 137, 138, 139, 140, 141, 142, 143, 144, 145, 146, 147] (by decide +kernel) (by decide +kernel)) (goodIn_sub (fun _ h => List.mem_cons_of_mem _ (List.mem_append_left _ (List.mem_append_right _ h))) (by decide +kernel))) (goodIn_sub (fun _ h => List.mem_cons_of_mem _ (List.mem_append_right _ h)) (by decide +kernel))
set_option maxRecDepth 20000 in
theorem gX5_go_X5_requireStanding : GoodIn wsX5_go (wsV RX5 149 RX5 yX5_requireStanding wsX5_requireStanding) := goodIn_app (goodIn_of _ (by decide +kernel)) ggX5_go_X5_requireStanding
set_option maxRecDepth 20000 in
theorem ggX5_go_X2_remember_h : GoodIn wsX5_go [.code yX2_remember cX2_remember 2 none] := goodIn_r _ [38] (by decide +kernel) (by decide +kernel)
set_option maxRecDepth 20000 in
theorem ggX5_go_X2_remember_0 : GoodIn wsX5_go wsX2_remember_r1 := goodIn_r _ [39, 40, 41, 42, 43, 37, 44, 45, 46, 47, 48, 49, 50, 51, 52, 19, 53, 54, 21, 55, 56, 57, 58, 59] (by decide +kernel) (by decide +kernel)
set_option maxRecDepth 20000 in
theorem ggX5_go_X2_remember_1 : GoodIn wsX5_go wsX2_remember_r2 := goodIn_r _ [60, 61, 62, 63, 64, 32, 65, 66, 67, 68, 69, 70, 71, 72, 73, 74, 75, 76, 77, 78, 79, 80, 28, 29] (by decide +kernel) (by decide +kernel)
set_option maxRecDepth 20000 in
theorem ggX5_go_X2_remember_2 : GoodIn wsX5_go wsX2_remember_r3 := goodIn_r _ [30, 31, 33, 81, 82, 83, 84, 85, 86, 87, 88, 89, 90, 91, 92, 93, 94] (by decide +kernel) (by decide +kernel)
set_option maxRecDepth 20000 in
theorem ggX5_go_X2_remember_3 : GoodIn wsX5_go wsX20 := goodIn_r _ [148, 149, 150] (by decide +kernel) (by decide +kernel)
set_option maxRecDepth 20000 in
theorem ggX5_go_X2_remember_4 : GoodIn wsX5_go wsX10 := goodIn_r _ [128, 129, 130, 131, 132, 133, 134, 135, 136, 137, 138] (by decide +kernel) (by decide +kernel)
set_option maxRecDepth 20000 in
theorem ggX5_go_X2_remember_5 : GoodIn wsX5_go wsX30 := goodIn_r _ [151, 152, 153, 154, 155] (by decide +kernel) (by decide +kernel)
set_option maxRecDepth 20000 in
theorem ggX5_go_X2_remember_6 : GoodIn wsX5_go wsX40 := goodIn_r _ [139, 140, 141, 142, 143, 144, 145, 146, 147] (by decide +kernel) (by decide +kernel)
set_option maxRecDepth 20000 in
theorem ggX5_go_X2_remember : GoodIn wsX5_go wsX2_remember := goodIn_c1 ggX5_go_X2_remember_h (goodIn_app (goodIn_app (goodIn_app (goodIn_app (goodIn_app ggX5_go_X2_remember_0 (goodIn_app ggX5_go_X2_remember_1 ggX5_go_X2_remember_2)) ggX5_go_X2_remember_3) ggX5_go_X2_remember_4) ggX5_go_X2_remember_5) ggX5_go_X2_remember_6)
set_option maxRecDepth 20000 in
theorem gX5_go_X2_remember : GoodIn wsX5_go (wsV RX5 130 RX2 yX2_remember wsX2_remember) := goodIn_app (goodIn_of _ (by decide +kernel)) ggX5_go_X2_remember
set_option maxRecDepth 20000 in
theorem ggX5_go_X1_leave_h : GoodIn wsX5_go [.code yX1_leave cX1_leave 2 (some .int)] := goodIn_r _ [98] (by decide +kernel) (by decide +kernel)
set_option maxRecDepth 20000 in
theorem ggX5_go_X1_leave_0 : GoodIn wsX5_go wsX1_leave_r1 := goodIn_r _ [99, 100, 101, 23, 24, 19, 25, 26, 27, 17, 18, 20, 21, 28, 29, 30, 31, 32, 33, 65, 66, 67, 68, 64] (by decide +kernel) (by decide +kernel)
set_option maxRecDepth 20000 in
theorem ggX5_go_X1_leave_1 : GoodIn wsX5_go wsX1_leave_r2 := goodIn_r _ [69, 102, 103, 104, 105, 106, 107, 108, 73, 109, 78, 79, 110, 111, 112, 113, 114, 115, 116, 117, 118, 119, 120, 84] (by decide +kernel) (by decide +kernel)
set_option maxRecDepth 20000 in
theorem ggX5_go_X1_leave_2 : GoodIn wsX5_go wsX1_leave_r3 := goodIn_r _ [121, 87, 88] (by decide +kernel) (by decide +kernel)
set_option maxRecDepth 20000 in
theorem ggX5_go_X1_leave_3 : GoodIn wsX5_go wsX40 := goodIn_r _ [139, 140, 141, 142, 143, 144, 145, 146, 147] (by decide +kernel) (by decide +kernel)
set_option maxRecDepth 20000 in
theorem ggX5_go_X1_leave_4 : GoodIn wsX5_go wsX10 := goodIn_r _ [128, 129, 130, 131, 132, 133, 134, 135, 136, 137, 138] (by decide +kernel) (by decide +kernel)
set_option maxRecDepth 20000 in
theorem ggX5_go_X1_leave_5 : GoodIn wsX5_go wsX30 := goodIn_r _ [151, 152, 153, 154, 155] (by decide +kernel) (by decide +kernel)
set_option maxRecDepth 20000 in
theorem ggX5_go_X1_leave : GoodIn wsX5_go wsX1_leave := goodIn_c1 ggX5_go_X1_leave_h (goodIn_app (goodIn_app (goodIn_app (goodIn_app ggX5_go_X1_leave_0 (goodIn_app ggX5_go_X1_leave_1 ggX5_go_X1_leave_2)) ggX5_go_X1_leave_3) ggX5_go_X1_leave_4) ggX5_go_X1_leave_5)
set_option maxRecDepth 20000 in
theorem gX5_go_X1_leave : GoodIn wsX5_go (wsV RX5 152 RX1 yX1_leave wsX1_leave) := goodIn_app (goodIn_of _ (by decide +kernel)) ggX5_go_X1_leave
theorem dX5_go_0 : decode cX5_go 0 = .ok (.aload_n 0, 1) := by decide +kernel
theorem dX5_go_1 : decode cX5_go 1 = .ok (.iload_n 1, 1) := by decide +kernel
theorem dX5_go_2 : decode cX5_go 2 = .ok (.invokevirtual 149, 3) := by decide +kernel
theorem dX5_go_5 : decode cX5_go 5 = .ok (.aload_n 0, 1) := by decide +kernel
theorem dX5_go_6 : decode cX5_go 6 = .ok (.getfield 29, 3) := by decide +kernel
theorem dX5_go_9 : decode cX5_go 9 = .ok (.aload_n 0, 1) := by decide +kernel
theorem dX5_go_10 : decode cX5_go 10 = .ok (.getfield 10, 3) := by decide +kernel
theorem dX5_go_13 : decode cX5_go 13 = .ok (.invokevirtual 130, 3) := by decide +kernel
theorem dX5_go_16 : decode cX5_go 16 = .ok (.aload_n 0, 1) := by decide +kernel
theorem dX5_go_17 : decode cX5_go 17 = .ok (.getfield 10, 3) := by decide +kernel
theorem dX5_go_20 : decode cX5_go 20 = .ok (.iload_n 1, 1) := by decide +kernel
theorem dX5_go_21 : decode cX5_go 21 = .ok (.invokevirtual 152, 3) := by decide +kernel
theorem dX5_go_24 : decode cX5_go 24 = .ok (.ireturn, 1) := by decide +kernel
set_option maxRecDepth 20000 in
theorem ggX5_exchange_X5_requireTrade : GoodIn wsX5_exchange wsX5_requireTrade := goodIn_ca (goodIn_ca (goodIn_r _ [7, 8, 9, 2, 10, 11, 12, 6, 13, 14, 15, 16, 17, 18, 19, 20, 21, 22, 23, 24, 25, 26, 27, 28, 29, 30, 31, 32, 33, 34, 35, 36, 37, 38, 39, 40, 41, 42, 43, 44, 45, 46, 47, 48, 49, 50, 51, 52, 53, 54, 55, 56, 57, 58, 59, 60, 61, 62, 128, 129, 130, 131, 132, 133, 134, 135, 136, 137, 138, 139, 140, 141, 142, 143, 144, 145, 146, 147, 148, 149, 150, 151, 152, 153, 154, 155, 156, 157, 158] (by decide +kernel) (by decide +kernel)) (goodIn_sub (fun _ h => List.mem_cons_of_mem _ (List.mem_append_left _ (List.mem_append_right _ h))) (by decide +kernel))) (goodIn_sub (fun _ h => List.mem_cons_of_mem _ (List.mem_append_right _ h)) (by decide +kernel))
set_option maxRecDepth 20000 in
theorem gX5_exchange_X5_requireTrade : GoodIn wsX5_exchange (wsV RX5 155 RX5 yX5_requireTrade wsX5_requireTrade) := goodIn_app (goodIn_of _ (by decide +kernel)) ggX5_exchange_X5_requireTrade
set_option maxRecDepth 20000 in
theorem ggX5_exchange_X2_remember_h : GoodIn wsX5_exchange [.code yX2_remember cX2_remember 2 none] := goodIn_r _ [67] (by decide +kernel) (by decide +kernel)
set_option maxRecDepth 20000 in
theorem ggX5_exchange_X2_remember_0 : GoodIn wsX5_exchange wsX2_remember_r1 := goodIn_r _ [68, 69, 70, 71, 72, 66, 73, 74, 75, 76, 77, 78, 79, 80, 81, 19, 82, 83, 21, 84, 85, 86, 87, 62] (by decide +kernel) (by decide +kernel)
set_option maxRecDepth 20000 in
theorem ggX5_exchange_X2_remember_1 : GoodIn wsX5_exchange wsX2_remember_r2 := goodIn_r _ [88, 89, 90, 91, 49, 39, 45, 46, 47, 48, 50, 92, 93, 94, 54, 95, 96, 97, 98, 56, 57, 99, 35, 36] (by decide +kernel) (by decide +kernel)
set_option maxRecDepth 20000 in
theorem ggX5_exchange_X2_remember_2 : GoodIn wsX5_exchange wsX2_remember_r3 := goodIn_r _ [37, 38, 40, 100, 101, 102, 103, 104, 105, 106, 107, 108, 109, 110, 111, 112, 113] (by decide +kernel) (by decide +kernel)
set_option maxRecDepth 20000 in
theorem ggX5_exchange_X2_remember_3 : GoodIn wsX5_exchange wsX20 := goodIn_r _ [159, 160, 161] (by decide +kernel) (by decide +kernel)
set_option maxRecDepth 20000 in
theorem ggX5_exchange_X2_remember_4 : GoodIn wsX5_exchange wsX10 := goodIn_r _ [134, 135, 136, 137, 138, 139, 140, 141, 142, 143, 144] (by decide +kernel) (by decide +kernel)
set_option maxRecDepth 20000 in
theorem ggX5_exchange_X2_remember_5 : GoodIn wsX5_exchange wsX30 := goodIn_r _ [154, 155, 156, 157, 158] (by decide +kernel) (by decide +kernel)
set_option maxRecDepth 20000 in
theorem ggX5_exchange_X2_remember_6 : GoodIn wsX5_exchange wsX40 := goodIn_r _ [145, 146, 147, 148, 149, 150, 151, 152, 153] (by decide +kernel) (by decide +kernel)
set_option maxRecDepth 20000 in
theorem ggX5_exchange_X2_remember : GoodIn wsX5_exchange wsX2_remember := goodIn_c1 ggX5_exchange_X2_remember_h (goodIn_app (goodIn_app (goodIn_app (goodIn_app (goodIn_app ggX5_exchange_X2_remember_0 (goodIn_app ggX5_exchange_X2_remember_1 ggX5_exchange_X2_remember_2)) ggX5_exchange_X2_remember_3) ggX5_exchange_X2_remember_4) ggX5_exchange_X2_remember_5) ggX5_exchange_X2_remember_6)
set_option maxRecDepth 20000 in
theorem gX5_exchange_X2_remember : GoodIn wsX5_exchange (wsV RX5 130 RX2 yX2_remember wsX2_remember) := goodIn_app (goodIn_of _ (by decide +kernel)) ggX5_exchange_X2_remember
set_option maxRecDepth 20000 in
theorem ggX5_exchange_X1_trade_h : GoodIn wsX5_exchange [.code yX1_trade cX1_trade 5 (some .int)] := goodIn_r _ [117] (by decide +kernel) (by decide +kernel)
set_option maxRecDepth 20000 in
theorem ggX5_exchange_X1_trade_0 : GoodIn wsX5_exchange wsX1_trade_r1 := goodIn_r _ [26, 27, 118, 85, 119, 23, 24, 19, 25, 28, 29, 30, 31, 32, 33, 34, 17, 18, 20, 21, 35, 36, 37, 38] (by decide +kernel) (by decide +kernel)
set_option maxRecDepth 20000 in
theorem ggX5_exchange_X1_trade_1 : GoodIn wsX5_exchange wsX1_trade_r2 := goodIn_r _ [39, 40, 41, 42, 43, 44, 45, 46, 47, 48, 49, 50, 51, 52, 53, 54, 55, 56, 57, 58, 59, 60, 61, 62] (by decide +kernel) (by decide +kernel)
set_option maxRecDepth 20000 in
theorem ggX5_exchange_X1_trade_2 : GoodIn wsX5_exchange wsX1_trade_r3 := goodIn_r _ [120, 121, 122, 123, 124, 125, 126, 127] (by decide +kernel) (by decide +kernel)
set_option maxRecDepth 20000 in
theorem ggX5_exchange_X1_trade_3 : GoodIn wsX5_exchange wsX40 := goodIn_r _ [145, 146, 147, 148, 149, 150, 151, 152, 153] (by decide +kernel) (by decide +kernel)
set_option maxRecDepth 20000 in
theorem ggX5_exchange_X1_trade_4 : GoodIn wsX5_exchange wsX10 := goodIn_r _ [134, 135, 136, 137, 138, 139, 140, 141, 142, 143, 144] (by decide +kernel) (by decide +kernel)
set_option maxRecDepth 20000 in
theorem ggX5_exchange_X1_trade_5 : GoodIn wsX5_exchange wsX30 := goodIn_r _ [154, 155, 156, 157, 158] (by decide +kernel) (by decide +kernel)
set_option maxRecDepth 20000 in
theorem ggX5_exchange_X1_trade : GoodIn wsX5_exchange wsX1_trade := goodIn_c1 ggX5_exchange_X1_trade_h (goodIn_app (goodIn_app (goodIn_app (goodIn_app ggX5_exchange_X1_trade_0 (goodIn_app ggX5_exchange_X1_trade_1 ggX5_exchange_X1_trade_2)) ggX5_exchange_X1_trade_3) ggX5_exchange_X1_trade_4) ggX5_exchange_X1_trade_5)
set_option maxRecDepth 20000 in
theorem gX5_exchange_X1_trade : GoodIn wsX5_exchange (wsV RX5 159 RX1 yX1_trade wsX1_trade) := goodIn_app (goodIn_of _ (by decide +kernel)) ggX5_exchange_X1_trade
theorem dX5_exchange_0 : decode cX5_exchange 0 = .ok (.aload_n 0, 1) := by decide +kernel
theorem dX5_exchange_1 : decode cX5_exchange 1 = .ok (.iload_n 1, 1) := by decide +kernel
theorem dX5_exchange_2 : decode cX5_exchange 2 = .ok (.iload_n 2, 1) := by decide +kernel
theorem dX5_exchange_3 : decode cX5_exchange 3 = .ok (.invokevirtual 155, 3) := by decide +kernel
theorem dX5_exchange_6 : decode cX5_exchange 6 = .ok (.aload_n 0, 1) := by decide +kernel
theorem dX5_exchange_7 : decode cX5_exchange 7 = .ok (.getfield 29, 3) := by decide +kernel
theorem dX5_exchange_10 : decode cX5_exchange 10 = .ok (.aload_n 0, 1) := by decide +kernel
theorem dX5_exchange_11 : decode cX5_exchange 11 = .ok (.getfield 10, 3) := by decide +kernel
theorem dX5_exchange_14 : decode cX5_exchange 14 = .ok (.invokevirtual 130, 3) := by decide +kernel
theorem dX5_exchange_17 : decode cX5_exchange 17 = .ok (.aload_n 0, 1) := by decide +kernel
theorem dX5_exchange_18 : decode cX5_exchange 18 = .ok (.getfield 10, 3) := by decide +kernel
theorem dX5_exchange_21 : decode cX5_exchange 21 = .ok (.iload_n 1, 1) := by decide +kernel
theorem dX5_exchange_22 : decode cX5_exchange 22 = .ok (.iload_n 2, 1) := by decide +kernel
theorem dX5_exchange_23 : decode cX5_exchange 23 = .ok (.invokevirtual 159, 3) := by decide +kernel
theorem dX5_exchange_26 : decode cX5_exchange 26 = .ok (.ireturn, 1) := by decide +kernel
set_option maxRecDepth 20000 in
theorem ggX5_jump_X5_requirePerson : GoodIn wsX5_jump wsX5_requirePerson := goodIn_ca (goodIn_r _ [9, 10, 11, 3, 12, 13, 14, 15, 16, 17, 138, 139, 140, 141, 142, 143, 144, 145, 146, 147, 148, 149, 150, 151, 152, 153, 154] (by decide +kernel) (by decide +kernel)) (goodIn_sub (fun _ h => List.mem_cons_of_mem _ (List.mem_append_right _ h)) (by decide +kernel))
set_option maxRecDepth 20000 in
theorem gX5_jump_X5_requirePerson : GoodIn wsX5_jump (wsV RX5 109 RX5 yX5_requirePerson wsX5_requirePerson) := goodIn_app (goodIn_of _ (by decide +kernel)) ggX5_jump_X5_requirePerson
set_option maxRecDepth 20000 in
theorem ggX5_jump_X1_mayPass_h : GoodIn wsX5_jump [.code yX1_mayPass cX1_mayPass 2 (some .boolean)] := goodIn_r _ [21] (by decide +kernel) (by decide +kernel)
set_option maxRecDepth 20000 in
theorem ggX5_jump_X1_mayPass_0 : GoodIn wsX5_jump wsX1_mayPass_r1 := goodIn_r _ [22, 23, 24, 25, 26, 27, 15, 28, 29, 30, 13, 14, 16, 17, 31, 32, 33, 34, 35, 36, 37, 38, 39, 40] (by decide +kernel) (by decide +kernel)
set_option maxRecDepth 20000 in
theorem ggX5_jump_X1_mayPass_1 : GoodIn wsX5_jump wsX1_mayPass_r2 := goodIn_r _ [41, 42, 43, 44, 45, 46, 47, 48, 49, 50, 51, 52, 53, 54] (by decide +kernel) (by decide +kernel)
set_option maxRecDepth 20000 in
theorem ggX5_jump_X1_mayPass_2 : GoodIn wsX5_jump wsX40 := goodIn_r _ [155, 156, 157, 158, 159, 160, 161, 162, 163] (by decide +kernel) (by decide +kernel)
set_option maxRecDepth 20000 in
theorem ggX5_jump_X1_mayPass_3 : GoodIn wsX5_jump wsX10 := goodIn_r _ [144, 145, 146, 147, 148, 149, 150, 151, 152, 153, 154] (by decide +kernel) (by decide +kernel)
set_option maxRecDepth 20000 in
theorem ggX5_jump_X1_mayPass_4 : GoodIn wsX5_jump wsX30 := goodIn_r _ [164, 165, 166, 167, 168] (by decide +kernel) (by decide +kernel)
set_option maxRecDepth 20000 in
theorem ggX5_jump_X1_mayPass : GoodIn wsX5_jump wsX1_mayPass := goodIn_c1 ggX5_jump_X1_mayPass_h (goodIn_app (goodIn_app (goodIn_app (goodIn_app ggX5_jump_X1_mayPass_0 ggX5_jump_X1_mayPass_1) ggX5_jump_X1_mayPass_2) ggX5_jump_X1_mayPass_3) ggX5_jump_X1_mayPass_4)
set_option maxRecDepth 20000 in
theorem gX5_jump_X1_mayPass : GoodIn wsX5_jump (wsV RX5 162 RX1 yX1_mayPass wsX1_mayPass) := goodIn_app (goodIn_of _ (by decide +kernel)) ggX5_jump_X1_mayPass
set_option maxRecDepth 20000 in
theorem ggX5_jump_X2_remember_h : GoodIn wsX5_jump [.code yX2_remember cX2_remember 2 none] := goodIn_r _ [59] (by decide +kernel) (by decide +kernel)
set_option maxRecDepth 20000 in
theorem ggX5_jump_X2_remember_0 : GoodIn wsX5_jump wsX2_remember_r1 := goodIn_r _ [60, 61, 62, 63, 64, 58, 65, 66, 67, 68, 69, 70, 71, 72, 73, 15, 74, 75, 17, 23, 76, 77, 78, 79] (by decide +kernel) (by decide +kernel)
set_option maxRecDepth 20000 in
theorem ggX5_jump_X2_remember_1 : GoodIn wsX5_jump wsX2_remember_r2 := goodIn_r _ [80, 81, 82, 83, 46, 35, 42, 43, 44, 45, 47, 84, 85, 86, 51, 87, 88, 89, 90, 53, 54, 91, 31, 32] (by decide +kernel) (by decide +kernel)
set_option maxRecDepth 20000 in
theorem ggX5_jump_X2_remember_2 : GoodIn wsX5_jump wsX2_remember_r3 := goodIn_r _ [33, 34, 36, 92, 93, 94, 95, 96, 97, 98, 99, 100, 101, 102, 103, 104, 105] (by decide +kernel) (by decide +kernel)
set_option maxRecDepth 20000 in
theorem ggX5_jump_X2_remember_3 : GoodIn wsX5_jump wsX20 := goodIn_r _ [169, 170, 171] (by decide +kernel) (by decide +kernel)
set_option maxRecDepth 20000 in
theorem ggX5_jump_X2_remember_4 : GoodIn wsX5_jump wsX10 := goodIn_r _ [144, 145, 146, 147, 148, 149, 150, 151, 152, 153, 154] (by decide +kernel) (by decide +kernel)
set_option maxRecDepth 20000 in
theorem ggX5_jump_X2_remember_5 : GoodIn wsX5_jump wsX30 := goodIn_r _ [164, 165, 166, 167, 168] (by decide +kernel) (by decide +kernel)
set_option maxRecDepth 20000 in
theorem ggX5_jump_X2_remember_6 : GoodIn wsX5_jump wsX40 := goodIn_r _ [155, 156, 157, 158, 159, 160, 161, 162, 163] (by decide +kernel) (by decide +kernel)
set_option maxRecDepth 20000 in
theorem ggX5_jump_X2_remember : GoodIn wsX5_jump wsX2_remember := goodIn_c1 ggX5_jump_X2_remember_h (goodIn_app (goodIn_app (goodIn_app (goodIn_app (goodIn_app ggX5_jump_X2_remember_0 (goodIn_app ggX5_jump_X2_remember_1 ggX5_jump_X2_remember_2)) ggX5_jump_X2_remember_3) ggX5_jump_X2_remember_4) ggX5_jump_X2_remember_5) ggX5_jump_X2_remember_6)
set_option maxRecDepth 20000 in
theorem gX5_jump_X2_remember : GoodIn wsX5_jump (wsV RX5 130 RX2 yX2_remember wsX2_remember) := goodIn_app (goodIn_of _ (by decide +kernel)) ggX5_jump_X2_remember
set_option maxRecDepth 20000 in
theorem ggX5_jump_X1_pass_h : GoodIn wsX5_jump [.code yX1_pass cX1_pass 7 (some .int)] := goodIn_r _ [109] (by decide +kernel) (by decide +kernel)
set_option maxRecDepth 20000 in
theorem ggX5_jump_X1_pass_0 : GoodIn wsX5_jump wsX1_pass_r1 := goodIn_r _ [41, 79, 110, 111, 112, 113, 114, 23, 24, 77, 115, 19, 20, 15, 21, 22, 25, 26, 27, 28, 29, 30, 13, 14] (by decide +kernel) (by decide +kernel)
set_option maxRecDepth 20000 in
theorem ggX5_jump_X1_pass_1 : GoodIn wsX5_jump wsX1_pass_r2 := goodIn_r _ [16, 17, 31, 32, 33, 34, 35, 36, 37, 38, 39, 40, 42, 43, 44, 45, 46, 47, 48, 49, 50, 51, 52, 53] (by decide +kernel) (by decide +kernel)
set_option maxRecDepth 20000 in
theorem ggX5_jump_X1_pass_2 : GoodIn wsX5_jump wsX1_pass_r3 := goodIn_r _ [54, 116, 117, 118, 119, 120, 121, 122, 123, 124, 125, 126, 127, 128, 129, 130, 131, 132, 133, 78, 134, 135, 136, 137] (by decide +kernel) (by decide +kernel)
set_option maxRecDepth 20000 in
theorem ggX5_jump_X1_pass_3 : GoodIn wsX5_jump wsX40 := goodIn_r _ [155, 156, 157, 158, 159, 160, 161, 162, 163] (by decide +kernel) (by decide +kernel)
set_option maxRecDepth 20000 in
theorem ggX5_jump_X1_pass_4 : GoodIn wsX5_jump wsX10 := goodIn_r _ [144, 145, 146, 147, 148, 149, 150, 151, 152, 153, 154] (by decide +kernel) (by decide +kernel)
set_option maxRecDepth 20000 in
theorem ggX5_jump_X1_pass_5 : GoodIn wsX5_jump wsX30 := goodIn_r _ [164, 165, 166, 167, 168] (by decide +kernel) (by decide +kernel)
set_option maxRecDepth 20000 in
theorem ggX5_jump_X1_pass : GoodIn wsX5_jump wsX1_pass := goodIn_c1 ggX5_jump_X1_pass_h (goodIn_app (goodIn_app (goodIn_app (goodIn_app ggX5_jump_X1_pass_0 (goodIn_app ggX5_jump_X1_pass_1 ggX5_jump_X1_pass_2)) ggX5_jump_X1_pass_3) ggX5_jump_X1_pass_4) ggX5_jump_X1_pass_5)
set_option maxRecDepth 20000 in
theorem gX5_jump_X1_pass : GoodIn wsX5_jump (wsV RX5 167 RX1 yX1_pass wsX1_pass) := goodIn_app (goodIn_of _ (by decide +kernel)) ggX5_jump_X1_pass
theorem dX5_jump_0 : decode cX5_jump 0 = .ok (.aload_n 0, 1) := by decide +kernel
theorem dX5_jump_1 : decode cX5_jump 1 = .ok (.iload_n 1, 1) := by decide +kernel
theorem dX5_jump_2 : decode cX5_jump 2 = .ok (.invokevirtual 109, 3) := by decide +kernel
theorem dX5_jump_5 : decode cX5_jump 5 = .ok (.aload_n 0, 1) := by decide +kernel
theorem dX5_jump_6 : decode cX5_jump 6 = .ok (.getfield 10, 3) := by decide +kernel
theorem dX5_jump_9 : decode cX5_jump 9 = .ok (.iload_n 1, 1) := by decide +kernel
theorem dX5_jump_10 : decode cX5_jump 10 = .ok (.invokevirtual 162, 3) := by decide +kernel
theorem dX5_jump_13 : decode cX5_jump 13 = .ok (.ifCond .ne 13, 3) := by decide +kernel
theorem dX5_jump_16 : decode cX5_jump 16 = .ok (.new 59, 3) := by decide +kernel
theorem dX5_jump_19 : decode cX5_jump 19 = .ok (.dup, 1) := by decide +kernel
theorem dX5_jump_20 : decode cX5_jump 20 = .ok (.ldc 165, 2) := by decide +kernel
theorem dX5_jump_22 : decode cX5_jump 22 = .ok (.invokespecial 63, 3) := by decide +kernel
theorem dX5_jump_25 : decode cX5_jump 25 = .ok (.athrow, 1) := by decide +kernel
theorem dX5_jump_26 : decode cX5_jump 26 = .ok (.aload_n 0, 1) := by decide +kernel
theorem dX5_jump_27 : decode cX5_jump 27 = .ok (.getfield 29, 3) := by decide +kernel
theorem dX5_jump_30 : decode cX5_jump 30 = .ok (.aload_n 0, 1) := by decide +kernel
theorem dX5_jump_31 : decode cX5_jump 31 = .ok (.getfield 10, 3) := by decide +kernel
theorem dX5_jump_34 : decode cX5_jump 34 = .ok (.invokevirtual 130, 3) := by decide +kernel
theorem dX5_jump_37 : decode cX5_jump 37 = .ok (.aload_n 0, 1) := by decide +kernel
theorem dX5_jump_38 : decode cX5_jump 38 = .ok (.getfield 10, 3) := by decide +kernel
theorem dX5_jump_41 : decode cX5_jump 41 = .ok (.iload_n 1, 1) := by decide +kernel
theorem dX5_jump_42 : decode cX5_jump 42 = .ok (.invokevirtual 167, 3) := by decide +kernel
theorem dX5_jump_45 : decode cX5_jump 45 = .ok (.ireturn, 1) := by decide +kernel
set_option maxRecDepth 20000 in
theorem ggX5_merge_X5_requireUnion : GoodIn wsX5_merge wsX5_requireUnion := goodIn_ca (goodIn_ca (goodIn_ca (goodIn_r _ [7, 8, 9, 10, 11, 2, 12, 13, 14, 6, 15, 16, 17, 18, 19, 20, 21, 22, 23, 24, 25, 26, 27, 28, 29, 30, 31, 32, 33, 34, 35, 129, 130, 131, 132, 133, 134, 135, 136, 137, 138, 139, 140, 141, 142, 143, 144, 145, 146, 147, 148, 149, 150] (by decide +kernel) (by decide +kernel)) (goodIn_sub (fun _ h => List.mem_cons_of_mem _ (List.mem_append_left _ (List.mem_append_left _ (List.mem_append_right _ h)))) (by decide +kernel))) (goodIn_sub (fun _ h => List.mem_cons_of_mem _ (List.mem_append_left _ (List.mem_append_right _ h))) (by decide +kernel))) (goodIn_sub (fun _ h => List.mem_cons_of_mem _ (List.mem_append_right _ h)) (by decide +kernel))
set_option maxRecDepth 20000 in
theorem gX5_merge_X5_requireUnion : GoodIn wsX5_merge (wsV RX5 170 RX5 yX5_requireUnion wsX5_requireUnion) := goodIn_app (goodIn_of _ (by decide +kernel)) ggX5_merge_X5_requireUnion
set_option maxRecDepth 20000 in
theorem ggX5_merge_X2_remember_h : GoodIn wsX5_merge [.code yX2_remember cX2_remember 2 none] := goodIn_r _ [40] (by decide +kernel) (by decide +kernel)
set_option maxRecDepth 20000 in
theorem ggX5_merge_X2_remember_0 : GoodIn wsX5_merge wsX2_remember_r1 := goodIn_r _ [41, 42, 43, 44, 45, 39, 46, 47, 48, 49, 50, 51, 52, 53, 54, 21, 55, 23, 56, 57, 58, 59, 60, 61] (by decide +kernel) (by decide +kernel)
set_option maxRecDepth 20000 in
theorem ggX5_merge_X2_remember_1 : GoodIn wsX5_merge wsX2_remember_r2 := goodIn_r _ [62, 63, 64, 65, 34, 66, 30, 31, 32, 33, 35, 67, 68, 69, 70, 71, 72, 73, 74, 75, 76, 77, 78, 79] (by decide +kernel) (by decide +kernel)
set_option maxRecDepth 20000 in
theorem ggX5_merge_X2_remember_2 : GoodIn wsX5_merge wsX2_remember_r3 := goodIn_r _ [80, 81, 82, 83, 84, 85, 86, 87, 88, 89, 90, 91, 92, 93, 94, 95, 96] (by decide +kernel) (by decide +kernel)
set_option maxRecDepth 20000 in
theorem ggX5_merge_X2_remember_3 : GoodIn wsX5_merge wsX20 := goodIn_r _ [151, 152, 153] (by decide +kernel) (by decide +kernel)
set_option maxRecDepth 20000 in
theorem ggX5_merge_X2_remember_4 : GoodIn wsX5_merge wsX10 := goodIn_r _ [135, 136, 137, 138, 139, 140, 141, 142, 143, 144, 145] (by decide +kernel) (by decide +kernel)
set_option maxRecDepth 20000 in
theorem ggX5_merge_X2_remember_5 : GoodIn wsX5_merge wsX30 := goodIn_r _ [146, 147, 148, 149, 150] (by decide +kernel) (by decide +kernel)
set_option maxRecDepth 20000 in
theorem ggX5_merge_X2_remember_6 : GoodIn wsX5_merge wsX40 := goodIn_r _ [154, 155, 156, 157, 158, 159, 160, 161, 162] (by decide +kernel) (by decide +kernel)
set_option maxRecDepth 20000 in
theorem ggX5_merge_X2_remember : GoodIn wsX5_merge wsX2_remember := goodIn_c1 ggX5_merge_X2_remember_h (goodIn_app (goodIn_app (goodIn_app (goodIn_app (goodIn_app ggX5_merge_X2_remember_0 (goodIn_app ggX5_merge_X2_remember_1 ggX5_merge_X2_remember_2)) ggX5_merge_X2_remember_3) ggX5_merge_X2_remember_4) ggX5_merge_X2_remember_5) ggX5_merge_X2_remember_6)
set_option maxRecDepth 20000 in
theorem gX5_merge_X2_remember : GoodIn wsX5_merge (wsV RX5 130 RX2 yX2_remember wsX2_remember) := goodIn_app (goodIn_of _ (by decide +kernel)) ggX5_merge_X2_remember
set_option maxRecDepth 20000 in
theorem ggX5_merge_X1_unite_h : GoodIn wsX5_merge [.code yX1_unite cX1_unite 6 (some .int)] := goodIn_r _ [100] (by decide +kernel) (by decide +kernel)
set_option maxRecDepth 20000 in
theorem ggX5_merge_X1_unite_0 : GoodIn wsX5_merge wsX1_unite_r1 := goodIn_r _ [28, 101, 102, 103, 25, 26, 21, 27, 29, 19, 20, 22, 23, 30, 31, 32, 33, 34, 35, 104, 105, 106, 70, 107] (by decide +kernel) (by decide +kernel)
set_option maxRecDepth 20000 in
theorem ggX5_merge_X1_unite_1 : GoodIn wsX5_merge wsX1_unite_r2 := goodIn_r _ [76, 108, 109, 110, 111, 75, 78, 79, 80, 81, 66, 82, 112, 113, 114, 115, 116, 117, 118, 119, 120, 121, 122, 123] (by decide +kernel) (by decide +kernel)
set_option maxRecDepth 20000 in
theorem ggX5_merge_X1_unite_2 : GoodIn wsX5_merge wsX1_unite_r3 := goodIn_r _ [124, 125, 126, 127, 128] (by decide +kernel) (by decide +kernel)
set_option maxRecDepth 20000 in
theorem ggX5_merge_X1_unite_3 : GoodIn wsX5_merge wsX30 := goodIn_r _ [146, 147, 148, 149, 150] (by decide +kernel) (by decide +kernel)
set_option maxRecDepth 20000 in
theorem ggX5_merge_X1_unite_4 : GoodIn wsX5_merge wsX40 := goodIn_r _ [154, 155, 156, 157, 158, 159, 160, 161, 162] (by decide +kernel) (by decide +kernel)
set_option maxRecDepth 20000 in
theorem ggX5_merge_X1_unite_5 : GoodIn wsX5_merge wsX10 := goodIn_r _ [135, 136, 137, 138, 139, 140, 141, 142, 143, 144, 145] (by decide +kernel) (by decide +kernel)
set_option maxRecDepth 20000 in
theorem ggX5_merge_X1_unite : GoodIn wsX5_merge wsX1_unite := goodIn_c1 ggX5_merge_X1_unite_h (goodIn_app (goodIn_app (goodIn_app (goodIn_app ggX5_merge_X1_unite_0 (goodIn_app ggX5_merge_X1_unite_1 ggX5_merge_X1_unite_2)) ggX5_merge_X1_unite_3) ggX5_merge_X1_unite_4) ggX5_merge_X1_unite_5)
set_option maxRecDepth 20000 in
theorem gX5_merge_X1_unite : GoodIn wsX5_merge (wsV RX5 173 RX1 yX1_unite wsX1_unite) := goodIn_app (goodIn_of _ (by decide +kernel)) ggX5_merge_X1_unite
theorem dX5_merge_0 : decode cX5_merge 0 = .ok (.aload_n 0, 1) := by decide +kernel
theorem dX5_merge_1 : decode cX5_merge 1 = .ok (.iload_n 1, 1) := by decide +kernel
theorem dX5_merge_2 : decode cX5_merge 2 = .ok (.iload_n 2, 1) := by decide +kernel
theorem dX5_merge_3 : decode cX5_merge 3 = .ok (.invokevirtual 170, 3) := by decide +kernel
theorem dX5_merge_6 : decode cX5_merge 6 = .ok (.aload_n 0, 1) := by decide +kernel
theorem dX5_merge_7 : decode cX5_merge 7 = .ok (.getfield 29, 3) := by decide +kernel
theorem dX5_merge_10 : decode cX5_merge 10 = .ok (.aload_n 0, 1) := by decide +kernel
theorem dX5_merge_11 : decode cX5_merge 11 = .ok (.getfield 10, 3) := by decide +kernel
theorem dX5_merge_14 : decode cX5_merge 14 = .ok (.invokevirtual 130, 3) := by decide +kernel
theorem dX5_merge_17 : decode cX5_merge 17 = .ok (.aload_n 0, 1) := by decide +kernel
theorem dX5_merge_18 : decode cX5_merge 18 = .ok (.getfield 10, 3) := by decide +kernel
theorem dX5_merge_21 : decode cX5_merge 21 = .ok (.iload_n 1, 1) := by decide +kernel
theorem dX5_merge_22 : decode cX5_merge 22 = .ok (.iload_n 2, 1) := by decide +kernel
theorem dX5_merge_23 : decode cX5_merge 23 = .ok (.invokevirtual 173, 3) := by decide +kernel
theorem dX5_merge_26 : decode cX5_merge 26 = .ok (.ireturn, 1) := by decide +kernel
set_option maxRecDepth 20000 in
theorem ggX5_minutes_X2_remember_h : GoodIn wsX5_minutes [.code yX2_remember cX2_remember 2 none] := goodIn_r _ [9] (by decide +kernel) (by decide +kernel)
set_option maxRecDepth 20000 in
theorem ggX5_minutes_X2_remember_0 : GoodIn wsX5_minutes wsX2_remember_r1 := goodIn_r _ [10, 11, 12, 13, 14, 8, 15, 16, 17, 18, 19, 20, 21, 22, 23, 24, 25, 26, 27, 28, 29, 30, 31, 32] (by decide +kernel) (by decide +kernel)
set_option maxRecDepth 20000 in
theorem ggX5_minutes_X2_remember_1 : GoodIn wsX5_minutes wsX2_remember_r2 := goodIn_r _ [33, 34, 35, 36, 37, 38, 39, 40, 41, 42, 43, 44, 45, 46, 47, 48, 49, 50, 51, 52, 53, 54, 55, 56] (by decide +kernel) (by decide +kernel)
set_option maxRecDepth 20000 in
theorem ggX5_minutes_X2_remember_2 : GoodIn wsX5_minutes wsX2_remember_r3 := goodIn_r _ [57, 58, 59, 60, 61, 62, 63, 64, 65, 66, 67, 68, 69, 70, 71, 72, 73] (by decide +kernel) (by decide +kernel)
set_option maxRecDepth 20000 in
theorem ggX5_minutes_X2_remember_3 : GoodIn wsX5_minutes wsX20 := goodIn_r _ [132, 133, 134] (by decide +kernel) (by decide +kernel)
set_option maxRecDepth 20000 in
theorem ggX5_minutes_X2_remember_4 : GoodIn wsX5_minutes wsX10 := goodIn_r _ [135, 136, 137, 138, 139, 140, 141, 142, 143, 144, 145] (by decide +kernel) (by decide +kernel)
set_option maxRecDepth 20000 in
theorem ggX5_minutes_X2_remember_5 : GoodIn wsX5_minutes wsX30 := goodIn_r _ [146, 147, 148, 149, 150] (by decide +kernel) (by decide +kernel)
set_option maxRecDepth 20000 in
theorem ggX5_minutes_X2_remember_6 : GoodIn wsX5_minutes wsX40 := goodIn_r _ [151, 152, 153, 154, 155, 156, 157, 158, 159] (by decide +kernel) (by decide +kernel)
set_option maxRecDepth 20000 in
theorem ggX5_minutes_X2_remember : GoodIn wsX5_minutes wsX2_remember := goodIn_c1 ggX5_minutes_X2_remember_h (goodIn_app (goodIn_app (goodIn_app (goodIn_app (goodIn_app ggX5_minutes_X2_remember_0 (goodIn_app ggX5_minutes_X2_remember_1 ggX5_minutes_X2_remember_2)) ggX5_minutes_X2_remember_3) ggX5_minutes_X2_remember_4) ggX5_minutes_X2_remember_5) ggX5_minutes_X2_remember_6)
set_option maxRecDepth 20000 in
theorem gX5_minutes_X2_remember : GoodIn wsX5_minutes (wsV RX5 130 RX2 yX2_remember wsX2_remember) := goodIn_app (goodIn_of _ (by decide +kernel)) ggX5_minutes_X2_remember
set_option maxRecDepth 20000 in
theorem ggX5_minutes_X1_letPass_h : GoodIn wsX5_minutes [.code yX1_letPass cX1_letPass 5 (some .int)] := goodIn_r _ [77] (by decide +kernel) (by decide +kernel)
set_option maxRecDepth 20000 in
theorem ggX5_minutes_X1_letPass_0 : GoodIn wsX5_minutes wsX1_letPass_r1 := goodIn_r _ [28, 26, 78, 79, 80, 24, 81, 27, 82, 83, 84, 85, 86, 87, 88, 89, 90, 91, 55, 56, 57, 58, 38, 59] (by decide +kernel) (by decide +kernel)
set_option maxRecDepth 20000 in
theorem ggX5_minutes_X1_letPass_1 : GoodIn wsX5_minutes wsX1_letPass_r2 := goodIn_r _ [39, 40, 41, 42, 37, 43, 92, 93, 94, 95, 96, 97, 98, 99, 100, 101, 102, 47, 103, 53, 104, 105, 106, 107] (by decide +kernel) (by decide +kernel)
set_option maxRecDepth 20000 in
theorem ggX5_minutes_X1_letPass_2 : GoodIn wsX5_minutes wsX1_letPass_r3 := goodIn_r _ [52, 108, 109, 110, 63, 111, 66, 67, 112, 113, 114, 115, 116, 117, 118, 119, 32, 120, 121, 122, 123, 124, 125, 31] (by decide +kernel) (by decide +kernel)
set_option maxRecDepth 20000 in
theorem ggX5_minutes_X1_letPass_3 : GoodIn wsX5_minutes wsX10 := goodIn_r _ [135, 136, 137, 138, 139, 140, 141, 142, 143, 144, 145] (by decide +kernel) (by decide +kernel)
set_option maxRecDepth 20000 in
theorem ggX5_minutes_X1_letPass_4 : GoodIn wsX5_minutes wsX40 := goodIn_r _ [151, 152, 153, 154, 155, 156, 157, 158, 159] (by decide +kernel) (by decide +kernel)
set_option maxRecDepth 20000 in
theorem ggX5_minutes_X1_letPass_5 : GoodIn wsX5_minutes wsX30 := goodIn_r _ [146, 147, 148, 149, 150] (by decide +kernel) (by decide +kernel)
set_option maxRecDepth 20000 in
theorem ggX5_minutes_X1_letPass : GoodIn wsX5_minutes wsX1_letPass := goodIn_c1 ggX5_minutes_X1_letPass_h (goodIn_app (goodIn_app (goodIn_app (goodIn_app ggX5_minutes_X1_letPass_0 (goodIn_app ggX5_minutes_X1_letPass_1 ggX5_minutes_X1_letPass_2)) ggX5_minutes_X1_letPass_3) ggX5_minutes_X1_letPass_4) ggX5_minutes_X1_letPass_5)
set_option maxRecDepth 20000 in
theorem gX5_minutes_X1_letPass : GoodIn wsX5_minutes (wsV RX5 178 RX1 yX1_letPass wsX1_letPass) := goodIn_app (goodIn_of _ (by decide +kernel)) ggX5_minutes_X1_letPass
theorem dX5_minutes_0 : decode cX5_minutes 0 = .ok (.iload_n 1, 1) := by decide +kernel
theorem dX5_minutes_1 : decode cX5_minutes 1 = .ok (.iconst 1, 1) := by decide +kernel
theorem dX5_minutes_2 : decode cX5_minutes 2 = .ok (.if_icmp .lt 9, 3) := by decide +kernel
theorem dX5_minutes_5 : decode cX5_minutes 5 = .ok (.iload_n 1, 1) := by decide +kernel
theorem dX5_minutes_6 : decode cX5_minutes 6 = .ok (.bipush 60, 2) := by decide +kernel
theorem dX5_minutes_8 : decode cX5_minutes 8 = .ok (.if_icmp .le 13, 3) := by decide +kernel
theorem dX5_minutes_11 : decode cX5_minutes 11 = .ok (.new 48, 3) := by decide +kernel
theorem dX5_minutes_14 : decode cX5_minutes 14 = .ok (.dup, 1) := by decide +kernel
theorem dX5_minutes_15 : decode cX5_minutes 15 = .ok (.ldc 176, 2) := by decide +kernel
theorem dX5_minutes_17 : decode cX5_minutes 17 = .ok (.invokespecial 52, 3) := by decide +kernel
theorem dX5_minutes_20 : decode cX5_minutes 20 = .ok (.athrow, 1) := by decide +kernel
theorem dX5_minutes_21 : decode cX5_minutes 21 = .ok (.aload_n 0, 1) := by decide +kernel
theorem dX5_minutes_22 : decode cX5_minutes 22 = .ok (.getfield 29, 3) := by decide +kernel
theorem dX5_minutes_25 : decode cX5_minutes 25 = .ok (.aload_n 0, 1) := by decide +kernel
theorem dX5_minutes_26 : decode cX5_minutes 26 = .ok (.getfield 10, 3) := by decide +kernel
theorem dX5_minutes_29 : decode cX5_minutes 29 = .ok (.invokevirtual 130, 3) := by decide +kernel
theorem dX5_minutes_32 : decode cX5_minutes 32 = .ok (.aload_n 0, 1) := by decide +kernel
theorem dX5_minutes_33 : decode cX5_minutes 33 = .ok (.getfield 10, 3) := by decide +kernel
theorem dX5_minutes_36 : decode cX5_minutes 36 = .ok (.iload_n 1, 1) := by decide +kernel
theorem dX5_minutes_37 : decode cX5_minutes 37 = .ok (.invokevirtual 178, 3) := by decide +kernel
theorem dX5_minutes_40 : decode cX5_minutes 40 = .ok (.ireturn, 1) := by decide +kernel
set_option maxRecDepth 20000 in
theorem ggX5_set_X5_requireSetting : GoodIn wsX5_set wsX5_requireSetting := goodIn_ca (goodIn_r _ [10, 1, 2] (by decide +kernel) (by decide +kernel)) (goodIn_sub (fun _ h => List.mem_cons_of_mem _ (List.mem_append_right _ h)) (by decide +kernel))
set_option maxRecDepth 20000 in
theorem gX5_set_X5_requireSetting : GoodIn wsX5_set (va_wsS RX5 117 yX5_requireSetting wsX5_requireSetting) := goodIn_app (goodIn_of _ (by decide +kernel)) ggX5_set_X5_requireSetting
set_option maxRecDepth 20000 in
theorem ggX5_set_X2_remember_h : GoodIn wsX5_set [.code yX2_remember cX2_remember 2 none] := goodIn_r _ [15] (by decide +kernel) (by decide +kernel)
set_option maxRecDepth 20000 in
theorem ggX5_set_X2_remember_0 : GoodIn wsX5_set wsX2_remember_r1 := goodIn_r _ [16, 17, 18, 19, 20, 14, 21, 22, 23, 24, 25, 26, 27, 28, 29, 30, 31, 32, 33, 34, 35, 36, 37, 38] (by decide +kernel) (by decide +kernel)
set_option maxRecDepth 20000 in
theorem ggX5_set_X2_remember_1 : GoodIn wsX5_set wsX2_remember_r2 := goodIn_r _ [39, 40, 41, 42, 43, 44, 45, 46, 47, 48, 49, 50, 51, 52, 53, 54, 55, 56, 57, 58, 59, 60, 61, 62] (by decide +kernel) (by decide +kernel)
set_option maxRecDepth 20000 in
theorem ggX5_set_X2_remember_2 : GoodIn wsX5_set wsX2_remember_r3 := goodIn_r _ [63, 64, 65, 66, 67, 68, 69, 70, 71, 72, 73, 74, 75, 76, 77, 78, 79] (by decide +kernel) (by decide +kernel)
set_option maxRecDepth 20000 in
theorem ggX5_set_X2_remember_3 : GoodIn wsX5_set wsX20 := goodIn_r _ [90, 91, 92] (by decide +kernel) (by decide +kernel)
set_option maxRecDepth 20000 in
theorem ggX5_set_X2_remember_4 : GoodIn wsX5_set wsX10 := goodIn_r _ [93, 94, 95, 96, 97, 98, 99, 100, 101, 102, 103] (by decide +kernel) (by decide +kernel)
set_option maxRecDepth 20000 in
theorem ggX5_set_X2_remember_5 : GoodIn wsX5_set wsX30 := goodIn_r _ [104, 105, 106, 107, 108] (by decide +kernel) (by decide +kernel)
set_option maxRecDepth 20000 in
theorem ggX5_set_X2_remember_6 : GoodIn wsX5_set wsX40 := goodIn_r _ [109, 110, 111, 112, 113, 114, 115, 116, 117] (by decide +kernel) (by decide +kernel)
set_option maxRecDepth 20000 in
theorem ggX5_set_X2_remember : GoodIn wsX5_set wsX2_remember := goodIn_c1 ggX5_set_X2_remember_h (goodIn_app (goodIn_app (goodIn_app (goodIn_app (goodIn_app ggX5_set_X2_remember_0 (goodIn_app ggX5_set_X2_remember_1 ggX5_set_X2_remember_2)) ggX5_set_X2_remember_3) ggX5_set_X2_remember_4) ggX5_set_X2_remember_5) ggX5_set_X2_remember_6)
set_option maxRecDepth 20000 in
theorem gX5_set_X2_remember : GoodIn wsX5_set (wsV RX5 130 RX2 yX2_remember wsX2_remember) := goodIn_app (goodIn_of _ (by decide +kernel)) ggX5_set_X2_remember
set_option maxRecDepth 20000 in
theorem ggX5_set_X1_changeSetting : GoodIn wsX5_set wsX1_changeSetting := goodIn_r _ [83, 38, 93, 94, 95, 96, 97, 98, 99, 100, 101, 102, 103] (by decide +kernel) (by decide +kernel)
set_option maxRecDepth 20000 in
theorem gX5_set_X1_changeSetting : GoodIn wsX5_set (wsV RX5 190 RX1 yX1_changeSetting wsX1_changeSetting) := goodIn_app (goodIn_of _ (by decide +kernel)) ggX5_set_X1_changeSetting
theorem dX5_set_0 : decode cX5_set 0 = .ok (.iload_n 1, 1) := by decide +kernel
