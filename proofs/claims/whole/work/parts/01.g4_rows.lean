theorem dX5_simulate_25 : decode cX5_simulate 25 = .ok (.aload_n 0, 1) := by decide +kernel
theorem dX5_simulate_26 : decode cX5_simulate 26 = .ok (.getfield 10, 3) := by decide +kernel
theorem dX5_simulate_29 : decode cX5_simulate 29 = .ok (.invokevirtual 232, 3) := by decide +kernel
theorem dX5_simulate_32 : decode cX5_simulate 32 = .ok (.lload_n 1, 1) := by decide +kernel
theorem dX5_simulate_33 : decode cX5_simulate 33 = .ok (.lstore 4, 2) := by decide +kernel
theorem dX5_simulate_35 : decode cX5_simulate 35 = .ok (.iconst 0, 1) := by decide +kernel
theorem dX5_simulate_36 : decode cX5_simulate 36 = .ok (.istore 6, 2) := by decide +kernel
theorem dX5_simulate_38 : decode cX5_simulate 38 = .ok (.iconst 0, 1) := by decide +kernel
theorem dX5_simulate_39 : decode cX5_simulate 39 = .ok (.istore 7, 2) := by decide +kernel
theorem dX5_simulate_41 : decode cX5_simulate 41 = .ok (.iload 7, 2) := by decide +kernel
theorem dX5_simulate_43 : decode cX5_simulate 43 = .ok (.iload_n 3, 1) := by decide +kernel
theorem dX5_simulate_44 : decode cX5_simulate 44 = .ok (.if_icmp .ge 47, 3) := by decide +kernel
theorem dX5_simulate_47 : decode cX5_simulate 47 = .ok (.lload 4, 2) := by decide +kernel
theorem dX5_simulate_49 : decode cX5_simulate 49 = .ok (.ldc2_w 242, 3) := by decide +kernel
theorem dX5_simulate_52 : decode cX5_simulate 52 = .ok (.lmul, 1) := by decide +kernel
theorem dX5_simulate_53 : decode cX5_simulate 53 = .ok (.ldc2_w 244, 3) := by decide +kernel
theorem dX5_simulate_56 : decode cX5_simulate 56 = .ok (.ladd, 1) := by decide +kernel
theorem dX5_simulate_57 : decode cX5_simulate 57 = .ok (.lstore 4, 2) := by decide +kernel
theorem dX5_simulate_59 : decode cX5_simulate 59 = .ok (.aload_n 0, 1) := by decide +kernel
theorem dX5_simulate_60 : decode cX5_simulate 60 = .ok (.getfield 23, 3) := by decide +kernel
theorem dX5_simulate_63 : decode cX5_simulate 63 = .ok (.lload 4, 2) := by decide +kernel
theorem dX5_simulate_65 : decode cX5_simulate 65 = .ok (.bipush 33, 2) := by decide +kernel
theorem dX5_simulate_67 : decode cX5_simulate 67 = .ok (.lushr, 1) := by decide +kernel
theorem dX5_simulate_68 : decode cX5_simulate 68 = .ok (.l2i, 1) := by decide +kernel
theorem dX5_simulate_69 : decode cX5_simulate 69 = .ok (.invokevirtual 246, 3) := by decide +kernel
theorem dX5_simulate_72 : decode cX5_simulate 72 = .ok (.iload 6, 2) := by decide +kernel
theorem dX5_simulate_74 : decode cX5_simulate 74 = .ok (.aload_n 0, 1) := by decide +kernel
theorem dX5_simulate_75 : decode cX5_simulate 75 = .ok (.getfield 23, 3) := by decide +kernel
theorem dX5_simulate_78 : decode cX5_simulate 78 = .ok (.iconst 1, 1) := by decide +kernel
theorem dX5_simulate_79 : decode cX5_simulate 79 = .ok (.invokevirtual 178, 3) := by decide +kernel
theorem dX5_simulate_82 : decode cX5_simulate 82 = .ok (.iadd, 1) := by decide +kernel
theorem dX5_simulate_83 : decode cX5_simulate 83 = .ok (.istore 6, 2) := by decide +kernel
theorem dX5_simulate_85 : decode cX5_simulate 85 = .ok (.iinc 7 1, 3) := by decide +kernel
theorem dX5_simulate_88 : decode cX5_simulate 88 = .ok (.goto (-47), 3) := by decide +kernel
theorem dX5_simulate_91 : decode cX5_simulate 91 = .ok (.sipush 1000, 3) := by decide +kernel
theorem dX5_simulate_94 : decode cX5_simulate 94 = .ok (.iload 6, 2) := by decide +kernel
theorem dX5_simulate_96 : decode cX5_simulate 96 = .ok (.imul, 1) := by decide +kernel
theorem dX5_simulate_97 : decode cX5_simulate 97 = .ok (.sipush 999, 3) := by decide +kernel
theorem dX5_simulate_100 : decode cX5_simulate 100 = .ok (.aload_n 0, 1) := by decide +kernel
theorem dX5_simulate_101 : decode cX5_simulate 101 = .ok (.getfield 23, 3) := by decide +kernel
theorem dX5_simulate_104 : decode cX5_simulate 104 = .ok (.getfield 249, 3) := by decide +kernel
theorem dX5_simulate_107 : decode cX5_simulate 107 = .ok (.aload_n 0, 1) := by decide +kernel
theorem dX5_simulate_108 : decode cX5_simulate 108 = .ok (.getfield 10, 3) := by decide +kernel
theorem dX5_simulate_111 : decode cX5_simulate 111 = .ok (.getfield 249, 3) := by decide +kernel
theorem dX5_simulate_114 : decode cX5_simulate 114 = .ok (.isub, 1) := by decide +kernel
theorem dX5_simulate_115 : decode cX5_simulate 115 = .ok (.invokestatic 253, 3) := by decide +kernel
theorem dX5_simulate_118 : decode cX5_simulate 118 = .ok (.iadd, 1) := by decide +kernel
theorem dX5_simulate_119 : decode cX5_simulate 119 = .ok (.ireturn, 1) := by decide +kernel
set_option maxRecDepth 20000 in
theorem ggX5_save_X5_requireSlot : GoodIn wsX5_save wsX5_requireSlot := goodIn_ca (goodIn_r _ [8, 9, 10] (by decide +kernel) (by decide +kernel)) (goodIn_sub (fun _ h => List.mem_cons_of_mem _ (List.mem_append_right _ h)) (by decide +kernel))
set_option maxRecDepth 20000 in
theorem gX5_save_X5_requireSlot : GoodIn wsX5_save (va_wsS RX5 258 yX5_requireSlot wsX5_requireSlot) := goodIn_app (goodIn_of _ (by decide +kernel)) ggX5_save_X5_requireSlot
set_option maxRecDepth 20000 in
theorem ggX5_save_X1_copyFrom_h : GoodIn wsX5_save [.code yX1_copyFrom cX1_copyFrom 3 none] := goodIn_r _ [15] (by decide +kernel) (by decide +kernel)
set_option maxRecDepth 20000 in
theorem ggX5_save_X1_copyFrom_0 : GoodIn wsX5_save wsX1_copyFrom_r1 := goodIn_r _ [16, 17, 18, 19, 20, 21, 22, 23, 24, 25, 26, 27, 28, 29, 30, 31, 14, 32, 33, 34, 35, 36, 37, 38] (by decide +kernel) (by decide +kernel)
set_option maxRecDepth 20000 in
theorem ggX5_save_X1_copyFrom_1 : GoodIn wsX5_save wsX1_copyFrom_r2 := goodIn_r _ [39, 40, 41, 42, 43, 44, 45, 46, 47, 48, 49, 50, 51, 52, 53, 54, 55, 56, 57, 58, 59, 60, 61, 62] (by decide +kernel) (by decide +kernel)
set_option maxRecDepth 20000 in
theorem ggX5_save_X1_copyFrom_2 : GoodIn wsX5_save wsX1_copyFrom_r3 := goodIn_r _ [63] (by decide +kernel) (by decide +kernel)
set_option maxRecDepth 20000 in
theorem ggX5_save_X1_copyFrom_3 : GoodIn wsX5_save wsX10 := goodIn_r _ [70, 71, 72, 73, 74, 75, 76, 77, 78, 79, 80] (by decide +kernel) (by decide +kernel)
set_option maxRecDepth 20000 in
theorem ggX5_save_X1_copyFrom_4 : GoodIn wsX5_save wsX30 := goodIn_r _ [81, 82, 83, 84, 85] (by decide +kernel) (by decide +kernel)
set_option maxRecDepth 20000 in
theorem ggX5_save_X1_copyFrom_5 : GoodIn wsX5_save wsX40 := goodIn_r _ [86, 87, 88, 89, 90, 91, 92, 93, 94] (by decide +kernel) (by decide +kernel)
set_option maxRecDepth 20000 in
theorem ggX5_save_X1_copyFrom : GoodIn wsX5_save wsX1_copyFrom := goodIn_c1 ggX5_save_X1_copyFrom_h (goodIn_app (goodIn_app (goodIn_app (goodIn_app ggX5_save_X1_copyFrom_0 (goodIn_app ggX5_save_X1_copyFrom_1 ggX5_save_X1_copyFrom_2)) ggX5_save_X1_copyFrom_3) ggX5_save_X1_copyFrom_4) ggX5_save_X1_copyFrom_5)
set_option maxRecDepth 20000 in
theorem gX5_save_X1_copyFrom : GoodIn wsX5_save (wsV RX5 232 RX1 yX1_copyFrom wsX1_copyFrom) := goodIn_app (goodIn_of _ (by decide +kernel)) ggX5_save_X1_copyFrom
theorem dX5_save_0 : decode cX5_save 0 = .ok (.iload_n 1, 1) := by decide +kernel
theorem dX5_save_1 : decode cX5_save 1 = .ok (.invokestatic 258, 3) := by decide +kernel
theorem dX5_save_4 : decode cX5_save 4 = .ok (.aload_n 0, 1) := by decide +kernel
theorem dX5_save_5 : decode cX5_save 5 = .ok (.getfield 33, 3) := by decide +kernel
theorem dX5_save_8 : decode cX5_save 8 = .ok (.iload_n 1, 1) := by decide +kernel
theorem dX5_save_9 : decode cX5_save 9 = .ok (.aaload, 1) := by decide +kernel
theorem dX5_save_10 : decode cX5_save 10 = .ok (.aload_n 0, 1) := by decide +kernel
theorem dX5_save_11 : decode cX5_save 11 = .ok (.getfield 10, 3) := by decide +kernel
theorem dX5_save_14 : decode cX5_save 14 = .ok (.invokevirtual 232, 3) := by decide +kernel
theorem dX5_save_17 : decode cX5_save 17 = .ok (.aload_n 0, 1) := by decide +kernel
theorem dX5_save_18 : decode cX5_save 18 = .ok (.getfield 37, 3) := by decide +kernel
theorem dX5_save_21 : decode cX5_save 21 = .ok (.iload_n 1, 1) := by decide +kernel
theorem dX5_save_22 : decode cX5_save 22 = .ok (.iconst 1, 1) := by decide +kernel
theorem dX5_save_23 : decode cX5_save 23 = .ok (.bastore, 1) := by decide +kernel
theorem dX5_save_24 : decode cX5_save 24 = .ok (.aload_n 0, 1) := by decide +kernel
theorem dX5_save_25 : decode cX5_save 25 = .ok (.getfield 10, 3) := by decide +kernel
theorem dX5_save_28 : decode cX5_save 28 = .ok (.getfield 261, 3) := by decide +kernel
theorem dX5_save_31 : decode cX5_save 31 = .ok (.ireturn, 1) := by decide +kernel
set_option maxRecDepth 20000 in
theorem ggX5_restore_X5_requireSlot : GoodIn wsX5_restore wsX5_requireSlot := goodIn_ca (goodIn_r _ [11, 12, 13] (by decide +kernel) (by decide +kernel)) (goodIn_sub (fun _ h => List.mem_cons_of_mem _ (List.mem_append_right _ h)) (by decide +kernel))
set_option maxRecDepth 20000 in
theorem gX5_restore_X5_requireSlot : GoodIn wsX5_restore (va_wsS RX5 258 yX5_requireSlot wsX5_requireSlot) := goodIn_app (goodIn_of _ (by decide +kernel)) ggX5_restore_X5_requireSlot
set_option maxRecDepth 20000 in
theorem ggX5_restore_X1_copyFrom_h : GoodIn wsX5_restore [.code yX1_copyFrom cX1_copyFrom 3 none] := goodIn_r _ [18] (by decide +kernel) (by decide +kernel)
set_option maxRecDepth 20000 in
theorem ggX5_restore_X1_copyFrom_0 : GoodIn wsX5_restore wsX1_copyFrom_r1 := goodIn_r _ [19, 20, 21, 22, 23, 24, 25, 26, 27, 28, 29, 30, 31, 32, 33, 34, 17, 35, 36, 37, 38, 39, 40, 41] (by decide +kernel) (by decide +kernel)
set_option maxRecDepth 20000 in
theorem ggX5_restore_X1_copyFrom_1 : GoodIn wsX5_restore wsX1_copyFrom_r2 := goodIn_r _ [42, 43, 44, 45, 46, 47, 48, 49, 50, 51, 52, 53, 54, 55, 56, 57, 58, 59, 60, 61, 62, 63, 64, 65] (by decide +kernel) (by decide +kernel)
set_option maxRecDepth 20000 in
theorem ggX5_restore_X1_copyFrom_2 : GoodIn wsX5_restore wsX1_copyFrom_r3 := goodIn_r _ [66] (by decide +kernel) (by decide +kernel)
set_option maxRecDepth 20000 in
theorem ggX5_restore_X1_copyFrom_3 : GoodIn wsX5_restore wsX10 := goodIn_r _ [80, 81, 82, 83, 84, 85, 86, 87, 88, 89, 90] (by decide +kernel) (by decide +kernel)
set_option maxRecDepth 20000 in
theorem ggX5_restore_X1_copyFrom_4 : GoodIn wsX5_restore wsX30 := goodIn_r _ [91, 92, 93, 94, 95] (by decide +kernel) (by decide +kernel)
set_option maxRecDepth 20000 in
theorem ggX5_restore_X1_copyFrom_5 : GoodIn wsX5_restore wsX40 := goodIn_r _ [96, 97, 98, 99, 100, 101, 102, 103, 104] (by decide +kernel) (by decide +kernel)
set_option maxRecDepth 20000 in
theorem ggX5_restore_X1_copyFrom : GoodIn wsX5_restore wsX1_copyFrom := goodIn_c1 ggX5_restore_X1_copyFrom_h (goodIn_app (goodIn_app (goodIn_app (goodIn_app ggX5_restore_X1_copyFrom_0 (goodIn_app ggX5_restore_X1_copyFrom_1 ggX5_restore_X1_copyFrom_2)) ggX5_restore_X1_copyFrom_3) ggX5_restore_X1_copyFrom_4) ggX5_restore_X1_copyFrom_5)
set_option maxRecDepth 20000 in
theorem gX5_restore_X1_copyFrom : GoodIn wsX5_restore (wsV RX5 232 RX1 yX1_copyFrom wsX1_copyFrom) := goodIn_app (goodIn_of _ (by decide +kernel)) ggX5_restore_X1_copyFrom
set_option maxRecDepth 20000 in
theorem ggX5_restore_X2_forgetAll : GoodIn wsX5_restore wsX2_forgetAll := goodIn_r _ [71, 72, 73, 105, 106, 107] (by decide +kernel) (by decide +kernel)
set_option maxRecDepth 20000 in
theorem gX5_restore_X2_forgetAll : GoodIn wsX5_restore (wsV RX5 76 RX2 yX2_forgetAll wsX2_forgetAll) := goodIn_app (goodIn_of _ (by decide +kernel)) ggX5_restore_X2_forgetAll
theorem dX5_restore_0 : decode cX5_restore 0 = .ok (.iload_n 1, 1) := by decide +kernel
theorem dX5_restore_1 : decode cX5_restore 1 = .ok (.invokestatic 258, 3) := by decide +kernel
theorem dX5_restore_4 : decode cX5_restore 4 = .ok (.aload_n 0, 1) := by decide +kernel
theorem dX5_restore_5 : decode cX5_restore 5 = .ok (.getfield 37, 3) := by decide +kernel
theorem dX5_restore_8 : decode cX5_restore 8 = .ok (.iload_n 1, 1) := by decide +kernel
theorem dX5_restore_9 : decode cX5_restore 9 = .ok (.baload, 1) := by decide +kernel
theorem dX5_restore_10 : decode cX5_restore 10 = .ok (.ifCond .ne 14, 3) := by decide +kernel
theorem dX5_restore_13 : decode cX5_restore 13 = .ok (.new 59, 3) := by decide +kernel
theorem dX5_restore_16 : decode cX5_restore 16 = .ok (.dup, 1) := by decide +kernel
theorem dX5_restore_17 : decode cX5_restore 17 = .ok (.ldc_w 264, 3) := by decide +kernel
theorem dX5_restore_20 : decode cX5_restore 20 = .ok (.invokespecial 63, 3) := by decide +kernel
theorem dX5_restore_23 : decode cX5_restore 23 = .ok (.athrow, 1) := by decide +kernel
theorem dX5_restore_24 : decode cX5_restore 24 = .ok (.aload_n 0, 1) := by decide +kernel
theorem dX5_restore_25 : decode cX5_restore 25 = .ok (.getfield 10, 3) := by decide +kernel
theorem dX5_restore_28 : decode cX5_restore 28 = .ok (.aload_n 0, 1) := by decide +kernel
theorem dX5_restore_29 : decode cX5_restore 29 = .ok (.getfield 33, 3) := by decide +kernel
theorem dX5_restore_32 : decode cX5_restore 32 = .ok (.iload_n 1, 1) := by decide +kernel
theorem dX5_restore_33 : decode cX5_restore 33 = .ok (.aaload, 1) := by decide +kernel
theorem dX5_restore_34 : decode cX5_restore 34 = .ok (.invokevirtual 232, 3) := by decide +kernel
theorem dX5_restore_37 : decode cX5_restore 37 = .ok (.aload_n 0, 1) := by decide +kernel
theorem dX5_restore_38 : decode cX5_restore 38 = .ok (.getfield 29, 3) := by decide +kernel
theorem dX5_restore_41 : decode cX5_restore 41 = .ok (.invokevirtual 76, 3) := by decide +kernel
theorem dX5_restore_44 : decode cX5_restore 44 = .ok (.aload_n 0, 1) := by decide +kernel
theorem dX5_restore_45 : decode cX5_restore 45 = .ok (.getfield 10, 3) := by decide +kernel
theorem dX5_restore_48 : decode cX5_restore 48 = .ok (.getfield 261, 3) := by decide +kernel
theorem dX5_restore_51 : decode cX5_restore 51 = .ok (.ireturn, 1) := by decide +kernel
set_option maxRecDepth 20000 in
theorem ggX5_requireLine_X1_isLine : GoodIn wsX5_requireLine wsX1_isLine := goodIn_r _ [8, 9, 16, 17, 18, 19, 20, 21, 22, 23, 24, 25, 26] (by decide +kernel) (by decide +kernel)
set_option maxRecDepth 20000 in
theorem gX5_requireLine_X1_isLine : GoodIn wsX5_requireLine (wsV RX5 266 RX1 yX1_isLine wsX1_isLine) := goodIn_app (goodIn_of _ (by decide +kernel)) ggX5_requireLine_X1_isLine
theorem dX5_requireLine_0 : decode cX5_requireLine 0 = .ok (.aload_n 0, 1) := by decide +kernel
theorem dX5_requireLine_1 : decode cX5_requireLine 1 = .ok (.getfield 10, 3) := by decide +kernel
theorem dX5_requireLine_4 : decode cX5_requireLine 4 = .ok (.iload_n 1, 1) := by decide +kernel
theorem dX5_requireLine_5 : decode cX5_requireLine 5 = .ok (.invokevirtual 266, 3) := by decide +kernel
theorem dX5_requireLine_8 : decode cX5_requireLine 8 = .ok (.ifCond .ne 14, 3) := by decide +kernel
theorem dX5_requireLine_11 : decode cX5_requireLine 11 = .ok (.new 269, 3) := by decide +kernel
theorem dX5_requireLine_14 : decode cX5_requireLine 14 = .ok (.dup, 1) := by decide +kernel
theorem dX5_requireLine_15 : decode cX5_requireLine 15 = .ok (.ldc_w 271, 3) := by decide +kernel
theorem dX5_requireLine_18 : decode cX5_requireLine 18 = .ok (.invokespecial 273, 3) := by decide +kernel
theorem dX5_requireLine_21 : decode cX5_requireLine 21 = .ok (.athrow, 1) := by decide +kernel
theorem dX5_requireLine_22 : decode cX5_requireLine 22 = .ok (.return_, 1) := by decide +kernel
set_option maxRecDepth 20000 in
theorem ggX5_requirePerson_X1_isPerson : GoodIn wsX5_requirePerson wsX1_isPerson := goodIn_r _ [8, 9, 16, 17, 18, 19, 20, 21, 22, 23, 24, 25, 26] (by decide +kernel) (by decide +kernel)
set_option maxRecDepth 20000 in
theorem gX5_requirePerson_X1_isPerson : GoodIn wsX5_requirePerson (wsV RX5 274 RX1 yX1_isPerson wsX1_isPerson) := goodIn_app (goodIn_of _ (by decide +kernel)) ggX5_requirePerson_X1_isPerson
theorem dX5_requirePerson_0 : decode cX5_requirePerson 0 = .ok (.aload_n 0, 1) := by decide +kernel
theorem dX5_requirePerson_1 : decode cX5_requirePerson 1 = .ok (.getfield 10, 3) := by decide +kernel
theorem dX5_requirePerson_4 : decode cX5_requirePerson 4 = .ok (.iload_n 1, 1) := by decide +kernel
theorem dX5_requirePerson_5 : decode cX5_requirePerson 5 = .ok (.invokevirtual 274, 3) := by decide +kernel
theorem dX5_requirePerson_8 : decode cX5_requirePerson 8 = .ok (.ifCond .ne 14, 3) := by decide +kernel
theorem dX5_requirePerson_11 : decode cX5_requirePerson 11 = .ok (.new 269, 3) := by decide +kernel
theorem dX5_requirePerson_14 : decode cX5_requirePerson 14 = .ok (.dup, 1) := by decide +kernel
theorem dX5_requirePerson_15 : decode cX5_requirePerson 15 = .ok (.ldc_w 277, 3) := by decide +kernel
theorem dX5_requirePerson_18 : decode cX5_requirePerson 18 = .ok (.invokespecial 273, 3) := by decide +kernel
theorem dX5_requirePerson_21 : decode cX5_requirePerson 21 = .ok (.athrow, 1) := by decide +kernel
theorem dX5_requirePerson_22 : decode cX5_requirePerson 22 = .ok (.return_, 1) := by decide +kernel
set_option maxRecDepth 20000 in
theorem ggX5_requireStanding_X5_requirePerson : GoodIn wsX5_requireStanding wsX5_requirePerson := goodIn_ca (goodIn_r _ [8, 9, 10, 3, 11, 12, 13, 14, 15, 16, 29, 30, 31, 32, 33, 34, 35, 36, 37, 38, 39, 40, 41, 42, 43, 44, 45] (by decide +kernel) (by decide +kernel)) (goodIn_sub (fun _ h => List.mem_cons_of_mem _ (List.mem_append_right _ h)) (by decide +kernel))
set_option maxRecDepth 20000 in
theorem gX5_requireStanding_X5_requirePerson : GoodIn wsX5_requireStanding (wsV RX5 109 RX5 yX5_requirePerson wsX5_requirePerson) := goodIn_app (goodIn_of _ (by decide +kernel)) ggX5_requireStanding_X5_requirePerson
set_option maxRecDepth 20000 in
theorem ggX5_requireStanding_X1_stands : GoodIn wsX5_requireStanding wsX1_stands := goodIn_r _ [20, 21, 22, 12, 13, 14, 15, 16, 23, 24, 25, 26, 27, 28, 46, 47, 48, 49, 50, 51, 52, 53, 54, 35, 36, 37, 38, 39, 40, 41, 42, 43, 44, 45] (by decide +kernel) (by decide +kernel)
set_option maxRecDepth 20000 in
theorem gX5_requireStanding_X1_stands : GoodIn wsX5_requireStanding (wsV RX5 279 RX1 yX1_stands wsX1_stands) := goodIn_app (goodIn_of _ (by decide +kernel)) ggX5_requireStanding_X1_stands
theorem dX5_requireStanding_0 : decode cX5_requireStanding 0 = .ok (.aload_n 0, 1) := by decide +kernel
theorem dX5_requireStanding_1 : decode cX5_requireStanding 1 = .ok (.iload_n 1, 1) := by decide +kernel
theorem dX5_requireStanding_2 : decode cX5_requireStanding 2 = .ok (.invokevirtual 109, 3) := by decide +kernel
theorem dX5_requireStanding_5 : decode cX5_requireStanding 5 = .ok (.aload_n 0, 1) := by decide +kernel
theorem dX5_requireStanding_6 : decode cX5_requireStanding 6 = .ok (.getfield 10, 3) := by decide +kernel
theorem dX5_requireStanding_9 : decode cX5_requireStanding 9 = .ok (.iload_n 1, 1) := by decide +kernel
theorem dX5_requireStanding_10 : decode cX5_requireStanding 10 = .ok (.invokevirtual 279, 3) := by decide +kernel
theorem dX5_requireStanding_13 : decode cX5_requireStanding 13 = .ok (.ifCond .ne 14, 3) := by decide +kernel
theorem dX5_requireStanding_16 : decode cX5_requireStanding 16 = .ok (.new 59, 3) := by decide +kernel
theorem dX5_requireStanding_19 : decode cX5_requireStanding 19 = .ok (.dup, 1) := by decide +kernel
theorem dX5_requireStanding_20 : decode cX5_requireStanding 20 = .ok (.ldc_w 282, 3) := by decide +kernel
theorem dX5_requireStanding_23 : decode cX5_requireStanding 23 = .ok (.invokespecial 63, 3) := by decide +kernel
theorem dX5_requireStanding_26 : decode cX5_requireStanding 26 = .ok (.athrow, 1) := by decide +kernel
theorem dX5_requireStanding_27 : decode cX5_requireStanding 27 = .ok (.return_, 1) := by decide +kernel
theorem dX5_requireSetting_0 : decode cX5_requireSetting 0 = .ok (.iload_n 0, 1) := by decide +kernel
theorem dX5_requireSetting_1 : decode cX5_requireSetting 1 = .ok (.ifCond .lt 8, 3) := by decide +kernel
theorem dX5_requireSetting_4 : decode cX5_requireSetting 4 = .ok (.iload_n 0, 1) := by decide +kernel
theorem dX5_requireSetting_5 : decode cX5_requireSetting 5 = .ok (.iconst 4, 1) := by decide +kernel
theorem dX5_requireSetting_6 : decode cX5_requireSetting 6 = .ok (.if_icmp .lt 14, 3) := by decide +kernel
theorem dX5_requireSetting_9 : decode cX5_requireSetting 9 = .ok (.new 48, 3) := by decide +kernel
theorem dX5_requireSetting_12 : decode cX5_requireSetting 12 = .ok (.dup, 1) := by decide +kernel
theorem dX5_requireSetting_13 : decode cX5_requireSetting 13 = .ok (.ldc_w 284, 3) := by decide +kernel
theorem dX5_requireSetting_16 : decode cX5_requireSetting 16 = .ok (.invokespecial 52, 3) := by decide +kernel
theorem dX5_requireSetting_19 : decode cX5_requireSetting 19 = .ok (.athrow, 1) := by decide +kernel
theorem dX5_requireSetting_20 : decode cX5_requireSetting 20 = .ok (.return_, 1) := by decide +kernel
theorem dX5_requireSlot_0 : decode cX5_requireSlot 0 = .ok (.iload_n 0, 1) := by decide +kernel
theorem dX5_requireSlot_1 : decode cX5_requireSlot 1 = .ok (.ifCond .lt 8, 3) := by decide +kernel
theorem dX5_requireSlot_4 : decode cX5_requireSlot 4 = .ok (.iload_n 0, 1) := by decide +kernel
theorem dX5_requireSlot_5 : decode cX5_requireSlot 5 = .ok (.iconst 2, 1) := by decide +kernel
theorem dX5_requireSlot_6 : decode cX5_requireSlot 6 = .ok (.if_icmp .lt 14, 3) := by decide +kernel
theorem dX5_requireSlot_9 : decode cX5_requireSlot 9 = .ok (.new 269, 3) := by decide +kernel
theorem dX5_requireSlot_12 : decode cX5_requireSlot 12 = .ok (.dup, 1) := by decide +kernel
theorem dX5_requireSlot_13 : decode cX5_requireSlot 13 = .ok (.ldc_w 286, 3) := by decide +kernel
theorem dX5_requireSlot_16 : decode cX5_requireSlot 16 = .ok (.invokespecial 273, 3) := by decide +kernel
theorem dX5_requireSlot_19 : decode cX5_requireSlot 19 = .ok (.athrow, 1) := by decide +kernel
theorem dX5_requireSlot_20 : decode cX5_requireSlot 20 = .ok (.return_, 1) := by decide +kernel
set_option maxRecDepth 20000 in
theorem ggX5_requireTrade_X5_requirePerson : GoodIn wsX5_requireTrade wsX5_requirePerson := goodIn_ca (goodIn_r _ [8, 9, 10, 3, 11, 12, 13, 14, 15, 16, 58, 59, 60, 61, 62, 63, 64, 65, 66, 67, 68, 69, 70, 71, 72, 73, 74] (by decide +kernel) (by decide +kernel)) (goodIn_sub (fun _ h => List.mem_cons_of_mem _ (List.mem_append_right _ h)) (by decide +kernel))
set_option maxRecDepth 20000 in
theorem gX5_requireTrade_X5_requirePerson : GoodIn wsX5_requireTrade (wsV RX5 109 RX5 yX5_requirePerson wsX5_requirePerson) := goodIn_app (goodIn_of _ (by decide +kernel)) ggX5_requireTrade_X5_requirePerson
set_option maxRecDepth 20000 in
theorem ggX5_requireTrade_X1_mayTrade_h : GoodIn wsX5_requireTrade [.code yX1_mayTrade cX1_mayTrade 5 (some .boolean)] := goodIn_r _ [20] (by decide +kernel) (by decide +kernel)
set_option maxRecDepth 20000 in
theorem ggX5_requireTrade_X1_mayTrade_0 : GoodIn wsX5_requireTrade wsX1_mayTrade_r1 := goodIn_r _ [21, 22, 23, 24, 25, 26, 14, 27, 28, 29, 12, 13, 15, 16, 30, 31, 32, 33, 34, 35, 36, 37, 38, 39] (by decide +kernel) (by decide +kernel)
set_option maxRecDepth 20000 in
theorem ggX5_requireTrade_X1_mayTrade_1 : GoodIn wsX5_requireTrade wsX1_mayTrade_r2 := goodIn_r _ [40, 41, 42, 43, 44, 45, 46, 47, 48, 49, 50, 51, 52, 53, 54, 55, 56, 57] (by decide +kernel) (by decide +kernel)
set_option maxRecDepth 20000 in
theorem ggX5_requireTrade_X1_mayTrade_2 : GoodIn wsX5_requireTrade wsX40 := goodIn_r _ [75, 76, 77, 78, 79, 80, 81, 82, 83] (by decide +kernel) (by decide +kernel)
set_option maxRecDepth 20000 in
theorem ggX5_requireTrade_X1_mayTrade_3 : GoodIn wsX5_requireTrade wsX10 := goodIn_r _ [64, 65, 66, 67, 68, 69, 70, 71, 72, 73, 74] (by decide +kernel) (by decide +kernel)
set_option maxRecDepth 20000 in
theorem ggX5_requireTrade_X1_mayTrade_4 : GoodIn wsX5_requireTrade wsX30 := goodIn_r _ [84, 85, 86, 87, 88] (by decide +kernel) (by decide +kernel)
set_option maxRecDepth 20000 in
theorem ggX5_requireTrade_X1_mayTrade : GoodIn wsX5_requireTrade wsX1_mayTrade := goodIn_c1 ggX5_requireTrade_X1_mayTrade_h (goodIn_app (goodIn_app (goodIn_app (goodIn_app ggX5_requireTrade_X1_mayTrade_0 ggX5_requireTrade_X1_mayTrade_1) ggX5_requireTrade_X1_mayTrade_2) ggX5_requireTrade_X1_mayTrade_3) ggX5_requireTrade_X1_mayTrade_4)
set_option maxRecDepth 20000 in
theorem gX5_requireTrade_X1_mayTrade : GoodIn wsX5_requireTrade (wsV RX5 288 RX1 yX1_mayTrade wsX1_mayTrade) := goodIn_app (goodIn_of _ (by decide +kernel)) ggX5_requireTrade_X1_mayTrade
theorem dX5_requireTrade_0 : decode cX5_requireTrade 0 = .ok (.aload_n 0, 1) := by decide +kernel
theorem dX5_requireTrade_1 : decode cX5_requireTrade 1 = .ok (.iload_n 1, 1) := by decide +kernel
theorem dX5_requireTrade_2 : decode cX5_requireTrade 2 = .ok (.invokevirtual 109, 3) := by decide +kernel
theorem dX5_requireTrade_5 : decode cX5_requireTrade 5 = .ok (.aload_n 0, 1) := by decide +kernel
theorem dX5_requireTrade_6 : decode cX5_requireTrade 6 = .ok (.iload_n 2, 1) := by decide +kernel
theorem dX5_requireTrade_7 : decode cX5_requireTrade 7 = .ok (.invokevirtual 109, 3) := by decide +kernel
theorem dX5_requireTrade_10 : decode cX5_requireTrade 10 = .ok (.aload_n 0, 1) := by decide +kernel
theorem dX5_requireTrade_11 : decode cX5_requireTrade 11 = .ok (.getfield 10, 3) := by decide +kernel
theorem dX5_requireTrade_14 : decode cX5_requireTrade 14 = .ok (.iload_n 1, 1) := by decide +kernel
theorem dX5_requireTrade_15 : decode cX5_requireTrade 15 = .ok (.iload_n 2, 1) := by decide +kernel
theorem dX5_requireTrade_16 : decode cX5_requireTrade 16 = .ok (.invokevirtual 288, 3) := by decide +kernel
theorem dX5_requireTrade_19 : decode cX5_requireTrade 19 = .ok (.ifCond .ne 14, 3) := by decide +kernel
theorem dX5_requireTrade_22 : decode cX5_requireTrade 22 = .ok (.new 59, 3) := by decide +kernel
theorem dX5_requireTrade_25 : decode cX5_requireTrade 25 = .ok (.dup, 1) := by decide +kernel
theorem dX5_requireTrade_26 : decode cX5_requireTrade 26 = .ok (.ldc_w 291, 3) := by decide +kernel
theorem dX5_requireTrade_29 : decode cX5_requireTrade 29 = .ok (.invokespecial 63, 3) := by decide +kernel
theorem dX5_requireTrade_32 : decode cX5_requireTrade 32 = .ok (.athrow, 1) := by decide +kernel
theorem dX5_requireTrade_33 : decode cX5_requireTrade 33 = .ok (.return_, 1) := by decide +kernel
set_option maxRecDepth 20000 in
theorem ggX5_requireUnion_X5_requireLine : GoodIn wsX5_requireUnion wsX5_requireLine := goodIn_ca (goodIn_r _ [10, 11, 12, 5, 13, 14, 15, 16, 17, 18, 31, 32, 33, 34, 35, 36, 37, 38, 39, 40, 41, 42, 43, 44, 45, 46, 47] (by decide +kernel) (by decide +kernel)) (goodIn_sub (fun _ h => List.mem_cons_of_mem _ (List.mem_append_right _ h)) (by decide +kernel))
set_option maxRecDepth 20000 in
theorem gX5_requireUnion_X5_requireLine : GoodIn wsX5_requireUnion (wsV RX5 88 RX5 yX5_requireLine wsX5_requireLine) := goodIn_app (goodIn_of _ (by decide +kernel)) ggX5_requireUnion_X5_requireLine
set_option maxRecDepth 20000 in
theorem ggX5_requireUnion_X1_mayUnite : GoodIn wsX5_requireUnion wsX1_mayUnite := goodIn_r _ [22, 23, 24, 14, 15, 16, 17, 18, 25, 26, 27, 28, 29, 30, 48, 49, 50, 51, 52, 37, 38, 39, 40, 41, 42, 43, 44, 45, 46, 47] (by decide +kernel) (by decide +kernel)
set_option maxRecDepth 20000 in
theorem gX5_requireUnion_X1_mayUnite : GoodIn wsX5_requireUnion (wsV RX5 295 RX1 yX1_mayUnite wsX1_mayUnite) := goodIn_app (goodIn_of _ (by decide +kernel)) ggX5_requireUnion_X1_mayUnite
theorem dX5_requireUnion_0 : decode cX5_requireUnion 0 = .ok (.aload_n 0, 1) := by decide +kernel
theorem dX5_requireUnion_1 : decode cX5_requireUnion 1 = .ok (.iload_n 1, 1) := by decide +kernel
theorem dX5_requireUnion_2 : decode cX5_requireUnion 2 = .ok (.invokevirtual 88, 3) := by decide +kernel
theorem dX5_requireUnion_5 : decode cX5_requireUnion 5 = .ok (.aload_n 0, 1) := by decide +kernel
theorem dX5_requireUnion_6 : decode cX5_requireUnion 6 = .ok (.iload_n 2, 1) := by decide +kernel
theorem dX5_requireUnion_7 : decode cX5_requireUnion 7 = .ok (.invokevirtual 88, 3) := by decide +kernel
theorem dX5_requireUnion_10 : decode cX5_requireUnion 10 = .ok (.iload_n 1, 1) := by decide +kernel
theorem dX5_requireUnion_11 : decode cX5_requireUnion 11 = .ok (.iload_n 2, 1) := by decide +kernel
theorem dX5_requireUnion_12 : decode cX5_requireUnion 12 = .ok (.if_icmp .ne 14, 3) := by decide +kernel
theorem dX5_requireUnion_15 : decode cX5_requireUnion 15 = .ok (.new 48, 3) := by decide +kernel
theorem dX5_requireUnion_18 : decode cX5_requireUnion 18 = .ok (.dup, 1) := by decide +kernel
theorem dX5_requireUnion_19 : decode cX5_requireUnion 19 = .ok (.ldc_w 293, 3) := by decide +kernel
theorem dX5_requireUnion_22 : decode cX5_requireUnion 22 = .ok (.invokespecial 52, 3) := by decide +kernel
theorem dX5_requireUnion_25 : decode cX5_requireUnion 25 = .ok (.athrow, 1) := by decide +kernel
theorem dX5_requireUnion_26 : decode cX5_requireUnion 26 = .ok (.aload_n 0, 1) := by decide +kernel
theorem dX5_requireUnion_27 : decode cX5_requireUnion 27 = .ok (.getfield 10, 3) := by decide +kernel
theorem dX5_requireUnion_30 : decode cX5_requireUnion 30 = .ok (.iload_n 1, 1) := by decide +kernel
theorem dX5_requireUnion_31 : decode cX5_requireUnion 31 = .ok (.iload_n 2, 1) := by decide +kernel
theorem dX5_requireUnion_32 : decode cX5_requireUnion 32 = .ok (.invokevirtual 295, 3) := by decide +kernel
theorem dX5_requireUnion_35 : decode cX5_requireUnion 35 = .ok (.ifCond .ne 14, 3) := by decide +kernel
theorem dX5_requireUnion_38 : decode cX5_requireUnion 38 = .ok (.new 59, 3) := by decide +kernel
theorem dX5_requireUnion_41 : decode cX5_requireUnion 41 = .ok (.dup, 1) := by decide +kernel
theorem dX5_requireUnion_42 : decode cX5_requireUnion 42 = .ok (.ldc_w 298, 3) := by decide +kernel
theorem dX5_requireUnion_45 : decode cX5_requireUnion 45 = .ok (.invokespecial 63, 3) := by decide +kernel
theorem dX5_requireUnion_48 : decode cX5_requireUnion 48 = .ok (.athrow, 1) := by decide +kernel
theorem dX5_requireUnion_49 : decode cX5_requireUnion 49 = .ok (.return_, 1) := by decide +kernel
theorem dX5_isKind_0 : decode cX5_isKind 0 = .ok (.iload_n 0, 1) := by decide +kernel
theorem dX5_isKind_1 : decode cX5_isKind 1 = .ok (.ifCond .lt 12, 3) := by decide +kernel
theorem dX5_isKind_4 : decode cX5_isKind 4 = .ok (.iload_n 0, 1) := by decide +kernel
theorem dX5_isKind_5 : decode cX5_isKind 5 = .ok (.iconst 2, 1) := by decide +kernel
theorem dX5_isKind_6 : decode cX5_isKind 6 = .ok (.if_icmp .gt 7, 3) := by decide +kernel
theorem dX5_isKind_9 : decode cX5_isKind 9 = .ok (.iconst 1, 1) := by decide +kernel
theorem dX5_isKind_10 : decode cX5_isKind 10 = .ok (.goto 4, 3) := by decide +kernel
theorem dX5_isKind_13 : decode cX5_isKind 13 = .ok (.iconst 0, 1) := by decide +kernel
theorem dX5_isKind_14 : decode cX5_isKind 14 = .ok (.ireturn, 1) := by decide +kernel
set_option maxRecDepth 20000 in
theorem ggX6_init_X6_begin : GoodIn wsX6_init wsX6_begin := goodIn_r _ [17, 5, 18, 10, 23, 24, 25, 26, 27, 28, 29, 30, 31, 32, 33, 34, 35] (by decide +kernel) (by decide +kernel)
set_option maxRecDepth 20000 in
theorem gX6_init_X6_begin : GoodIn wsX6_init (wsV RX6 30 RX6 yX6_begin wsX6_begin) := goodIn_app (goodIn_of _ (by decide +kernel)) ggX6_init_X6_begin
set_option maxRecDepth 20000 in
theorem ggX6_init_X6_lineOf : GoodIn wsX6_init wsX6_lineOf := goodIn_r _ [22, 5, 23, 24, 25, 26, 27, 28, 29, 30, 31, 32, 33, 34, 35] (by decide +kernel) (by decide +kernel)
set_option maxRecDepth 20000 in
theorem gX6_init_X6_lineOf : GoodIn wsX6_init (wsV RX6 33 RX6 yX6_lineOf wsX6_lineOf) := goodIn_app (goodIn_of _ (by decide +kernel)) ggX6_init_X6_lineOf
