set_option maxRecDepth 20000 in
theorem ggX6_simulate_X6_turn_h : GoodIn wsX6_simulate [.code yX6_turn cX6_turn 7 none] := goodIn_r _ [22] (by decide +kernel) (by decide +kernel)
set_option maxRecDepth 20000 in
theorem ggX6_simulate_X6_turn_0 : GoodIn wsX6_simulate wsX6_turn_r1 := goodIn_r _ [1, 23, 24, 25, 6, 26, 27, 28, 29, 30, 31, 32, 33, 34, 4, 5, 7, 35, 36, 37, 38, 39, 40, 41] (by decide +kernel) (by decide +kernel)
set_option maxRecDepth 20000 in
theorem ggX6_simulate_X6_turn_1 : GoodIn wsX6_simulate wsX6_turn_r2 := goodIn_r _ [42, 43, 44, 45, 46, 47, 48, 49, 50, 51, 52, 53, 54, 55, 56, 57, 58, 59, 60, 61, 62, 63, 64, 65] (by decide +kernel) (by decide +kernel)
set_option maxRecDepth 20000 in
theorem ggX6_simulate_X6_turn_2 : GoodIn wsX6_simulate wsX6_turn_r3 := goodIn_r _ [66, 67, 68, 69, 70, 71, 72, 73, 74, 75, 76, 77, 78, 79, 80, 81, 82, 83, 84, 85, 86, 87, 88, 89] (by decide +kernel) (by decide +kernel)
set_option maxRecDepth 20000 in
theorem ggX6_simulate_X6_turn_3 : GoodIn wsX6_simulate wsX6_turn_r4 := goodIn_r _ [90, 91, 92, 93, 94, 95, 96, 97, 98, 99, 100, 101, 102, 103, 104, 105] (by decide +kernel) (by decide +kernel)
set_option maxRecDepth 20000 in
theorem ggX6_simulate_X6_turn_4 : GoodIn wsX6_simulate wsX60 := goodIn_r _ [110, 111, 112, 113, 114, 115, 116, 117, 118, 119, 120, 121, 122] (by decide +kernel) (by decide +kernel)
set_option maxRecDepth 20000 in
theorem ggX6_simulate_X6_turn : GoodIn wsX6_simulate wsX6_turn := goodIn_c1 ggX6_simulate_X6_turn_h (goodIn_app (goodIn_app ggX6_simulate_X6_turn_0 (goodIn_app ggX6_simulate_X6_turn_1 (goodIn_app ggX6_simulate_X6_turn_2 ggX6_simulate_X6_turn_3))) ggX6_simulate_X6_turn_4)
set_option maxRecDepth 20000 in
theorem gX6_simulate_X6_turn : GoodIn wsX6_simulate (wsV RX6 197 RX6 yX6_turn wsX6_turn) := goodIn_app (goodIn_of _ (by decide +kernel)) ggX6_simulate_X6_turn
set_option maxRecDepth 20000 in
theorem ggX6_simulate_X6_minute : GoodIn wsX6_simulate wsX6_minute := goodIn_r _ [89, 1, 47, 48, 6, 49, 43, 44, 45, 46, 70, 71, 72, 73, 90, 91, 92, 93, 110, 111, 112, 113, 114, 115, 116, 117, 118, 119, 120, 121, 122] (by decide +kernel) (by decide +kernel)
set_option maxRecDepth 20000 in
theorem gX6_simulate_X6_minute : GoodIn wsX6_simulate (wsV RX6 80 RX6 yX6_minute wsX6_minute) := goodIn_app (goodIn_of _ (by decide +kernel)) ggX6_simulate_X6_minute
set_option maxRecDepth 20000 in
theorem ggX6_simulate_X6_pop : GoodIn wsX6_simulate wsX6_pop := goodIn_r _ [109, 18, 1, 17, 110, 111, 112, 113, 114, 115, 116, 117, 118, 119, 120, 121, 122] (by decide +kernel) (by decide +kernel)
set_option maxRecDepth 20000 in
theorem gX6_simulate_X6_pop : GoodIn wsX6_simulate (wsV RX6 170 RX6 yX6_pop wsX6_pop) := goodIn_app (goodIn_of _ (by decide +kernel)) ggX6_simulate_X6_pop
theorem dX6_simulate_0 : decode cX6_simulate 0 = .ok (.aload_n 0, 1) := by decide +kernel
theorem dX6_simulate_1 : decode cX6_simulate 1 = .ok (.iload_n 3, 1) := by decide +kernel
theorem dX6_simulate_2 : decode cX6_simulate 2 = .ok (.iconst 1, 1) := by decide +kernel
theorem dX6_simulate_3 : decode cX6_simulate 3 = .ok (.bipush 99, 2) := by decide +kernel
theorem dX6_simulate_5 : decode cX6_simulate 5 = .ok (.invokestatic 47, 3) := by decide +kernel
theorem dX6_simulate_8 : decode cX6_simulate 8 = .ok (.ifCond .eq 7, 3) := by decide +kernel
theorem dX6_simulate_11 : decode cX6_simulate 11 = .ok (.iconst 0, 1) := by decide +kernel
theorem dX6_simulate_12 : decode cX6_simulate 12 = .ok (.goto 4, 3) := by decide +kernel
theorem dX6_simulate_15 : decode cX6_simulate 15 = .ok (.iconst 1, 1) := by decide +kernel
theorem dX6_simulate_16 : decode cX6_simulate 16 = .ok (.invokevirtual 87, 3) := by decide +kernel
theorem dX6_simulate_19 : decode cX6_simulate 19 = .ok (.ifCond .ne 5, 3) := by decide +kernel
theorem dX6_simulate_22 : decode cX6_simulate 22 = .ok (.iconst 0, 1) := by decide +kernel
theorem dX6_simulate_23 : decode cX6_simulate 23 = .ok (.ireturn, 1) := by decide +kernel
theorem dX6_simulate_24 : decode cX6_simulate 24 = .ok (.aload_n 0, 1) := by decide +kernel
theorem dX6_simulate_25 : decode cX6_simulate 25 = .ok (.invokevirtual 167, 3) := by decide +kernel
theorem dX6_simulate_28 : decode cX6_simulate 28 = .ok (.lload_n 1, 1) := by decide +kernel
theorem dX6_simulate_29 : decode cX6_simulate 29 = .ok (.lstore 4, 2) := by decide +kernel
theorem dX6_simulate_31 : decode cX6_simulate 31 = .ok (.iconst 0, 1) := by decide +kernel
theorem dX6_simulate_32 : decode cX6_simulate 32 = .ok (.istore 6, 2) := by decide +kernel
theorem dX6_simulate_34 : decode cX6_simulate 34 = .ok (.aload_n 0, 1) := by decide +kernel
theorem dX6_simulate_35 : decode cX6_simulate 35 = .ok (.getfield 7, 3) := by decide +kernel
theorem dX6_simulate_38 : decode cX6_simulate 38 = .ok (.iconst 5, 1) := by decide +kernel
theorem dX6_simulate_39 : decode cX6_simulate 39 = .ok (.iaload, 1) := by decide +kernel
theorem dX6_simulate_40 : decode cX6_simulate 40 = .ok (.istore 7, 2) := by decide +kernel
theorem dX6_simulate_42 : decode cX6_simulate 42 = .ok (.iconst 0, 1) := by decide +kernel
theorem dX6_simulate_43 : decode cX6_simulate 43 = .ok (.istore 8, 2) := by decide +kernel
theorem dX6_simulate_45 : decode cX6_simulate 45 = .ok (.iload 8, 2) := by decide +kernel
theorem dX6_simulate_47 : decode cX6_simulate 47 = .ok (.iload_n 3, 1) := by decide +kernel
theorem dX6_simulate_48 : decode cX6_simulate 48 = .ok (.if_icmp .ge 63, 3) := by decide +kernel
theorem dX6_simulate_51 : decode cX6_simulate 51 = .ok (.lload 4, 2) := by decide +kernel
theorem dX6_simulate_53 : decode cX6_simulate 53 = .ok (.ldc2_w 193, 3) := by decide +kernel
theorem dX6_simulate_56 : decode cX6_simulate 56 = .ok (.lmul, 1) := by decide +kernel
theorem dX6_simulate_57 : decode cX6_simulate 57 = .ok (.ldc2_w 195, 3) := by decide +kernel
theorem dX6_simulate_60 : decode cX6_simulate 60 = .ok (.ladd, 1) := by decide +kernel
theorem dX6_simulate_61 : decode cX6_simulate 61 = .ok (.lstore 4, 2) := by decide +kernel
theorem dX6_simulate_63 : decode cX6_simulate 63 = .ok (.lload 4, 2) := by decide +kernel
theorem dX6_simulate_65 : decode cX6_simulate 65 = .ok (.bipush 33, 2) := by decide +kernel
theorem dX6_simulate_67 : decode cX6_simulate 67 = .ok (.lushr, 1) := by decide +kernel
theorem dX6_simulate_68 : decode cX6_simulate 68 = .ok (.l2i, 1) := by decide +kernel
theorem dX6_simulate_69 : decode cX6_simulate 69 = .ok (.istore 9, 2) := by decide +kernel
theorem dX6_simulate_71 : decode cX6_simulate 71 = .ok (.aload_n 0, 1) := by decide +kernel
theorem dX6_simulate_72 : decode cX6_simulate 72 = .ok (.iload 9, 2) := by decide +kernel
theorem dX6_simulate_74 : decode cX6_simulate 74 = .ok (.aload_n 0, 1) := by decide +kernel
theorem dX6_simulate_75 : decode cX6_simulate 75 = .ok (.getfield 7, 3) := by decide +kernel
theorem dX6_simulate_78 : decode cX6_simulate 78 = .ok (.iconst 2, 1) := by decide +kernel
theorem dX6_simulate_79 : decode cX6_simulate 79 = .ok (.iaload, 1) := by decide +kernel
theorem dX6_simulate_80 : decode cX6_simulate 80 = .ok (.ifCond .ne 7, 3) := by decide +kernel
theorem dX6_simulate_83 : decode cX6_simulate 83 = .ok (.iconst 1, 1) := by decide +kernel
theorem dX6_simulate_84 : decode cX6_simulate 84 = .ok (.goto 9, 3) := by decide +kernel
theorem dX6_simulate_87 : decode cX6_simulate 87 = .ok (.aload_n 0, 1) := by decide +kernel
theorem dX6_simulate_88 : decode cX6_simulate 88 = .ok (.getfield 7, 3) := by decide +kernel
theorem dX6_simulate_91 : decode cX6_simulate 91 = .ok (.iconst 2, 1) := by decide +kernel
theorem dX6_simulate_92 : decode cX6_simulate 92 = .ok (.iaload, 1) := by decide +kernel
theorem dX6_simulate_93 : decode cX6_simulate 93 = .ok (.invokevirtual 197, 3) := by decide +kernel
theorem dX6_simulate_96 : decode cX6_simulate 96 = .ok (.iload 6, 2) := by decide +kernel
theorem dX6_simulate_98 : decode cX6_simulate 98 = .ok (.aload_n 0, 1) := by decide +kernel
theorem dX6_simulate_99 : decode cX6_simulate 99 = .ok (.invokevirtual 80, 3) := by decide +kernel
theorem dX6_simulate_102 : decode cX6_simulate 102 = .ok (.iadd, 1) := by decide +kernel
theorem dX6_simulate_103 : decode cX6_simulate 103 = .ok (.istore 6, 2) := by decide +kernel
theorem dX6_simulate_105 : decode cX6_simulate 105 = .ok (.iinc 8 1, 3) := by decide +kernel
theorem dX6_simulate_108 : decode cX6_simulate 108 = .ok (.goto (-63), 3) := by decide +kernel
theorem dX6_simulate_111 : decode cX6_simulate 111 = .ok (.aload_n 0, 1) := by decide +kernel
theorem dX6_simulate_112 : decode cX6_simulate 112 = .ok (.getfield 7, 3) := by decide +kernel
theorem dX6_simulate_115 : decode cX6_simulate 115 = .ok (.iconst 5, 1) := by decide +kernel
theorem dX6_simulate_116 : decode cX6_simulate 116 = .ok (.iaload, 1) := by decide +kernel
theorem dX6_simulate_117 : decode cX6_simulate 117 = .ok (.iload 7, 2) := by decide +kernel
theorem dX6_simulate_119 : decode cX6_simulate 119 = .ok (.isub, 1) := by decide +kernel
theorem dX6_simulate_120 : decode cX6_simulate 120 = .ok (.istore 8, 2) := by decide +kernel
theorem dX6_simulate_122 : decode cX6_simulate 122 = .ok (.aload_n 0, 1) := by decide +kernel
theorem dX6_simulate_123 : decode cX6_simulate 123 = .ok (.invokevirtual 170, 3) := by decide +kernel
theorem dX6_simulate_126 : decode cX6_simulate 126 = .ok (.sipush 1000, 3) := by decide +kernel
theorem dX6_simulate_129 : decode cX6_simulate 129 = .ok (.iload 6, 2) := by decide +kernel
theorem dX6_simulate_131 : decode cX6_simulate 131 = .ok (.imul, 1) := by decide +kernel
theorem dX6_simulate_132 : decode cX6_simulate 132 = .ok (.iload 8, 2) := by decide +kernel
theorem dX6_simulate_134 : decode cX6_simulate 134 = .ok (.sipush 999, 3) := by decide +kernel
theorem dX6_simulate_137 : decode cX6_simulate 137 = .ok (.if_icmp .le 9, 3) := by decide +kernel
theorem dX6_simulate_140 : decode cX6_simulate 140 = .ok (.sipush 999, 3) := by decide +kernel
theorem dX6_simulate_143 : decode cX6_simulate 143 = .ok (.goto 5, 3) := by decide +kernel
theorem dX6_simulate_146 : decode cX6_simulate 146 = .ok (.iload 8, 2) := by decide +kernel
theorem dX6_simulate_148 : decode cX6_simulate 148 = .ok (.iadd, 1) := by decide +kernel
theorem dX6_simulate_149 : decode cX6_simulate 149 = .ok (.ireturn, 1) := by decide +kernel
set_option maxRecDepth 20000 in
theorem ggX6_turn_X6_carries_h : GoodIn wsX6_turn [.code yX6_carries cX6_carries 6 (some .boolean)] := goodIn_r _ [6] (by decide +kernel) (by decide +kernel)
set_option maxRecDepth 20000 in
theorem ggX6_turn_X6_carries_0 : GoodIn wsX6_turn wsX6_carries_r1 := goodIn_r _ [7, 8, 9, 5, 10, 1, 11, 12, 13, 14, 15, 16, 17, 18, 19, 20, 21, 22, 23, 24, 25, 26, 27, 28] (by decide +kernel) (by decide +kernel)
set_option maxRecDepth 20000 in
theorem ggX6_turn_X6_carries_1 : GoodIn wsX6_turn wsX6_carries_r2 := goodIn_r _ [29, 30, 31, 32, 33, 34, 35, 36, 37, 38, 39, 40, 41, 42, 43, 44, 45, 46, 47, 48, 49, 50, 51, 52] (by decide +kernel) (by decide +kernel)
set_option maxRecDepth 20000 in
theorem ggX6_turn_X6_carries_2 : GoodIn wsX6_turn wsX6_carries_r3 := goodIn_r _ [53, 54, 55, 56, 57, 58, 59, 60, 61, 62, 63, 64, 65, 66, 67, 68, 69, 70, 71, 72, 73, 74, 75, 76] (by decide +kernel) (by decide +kernel)
set_option maxRecDepth 20000 in
theorem ggX6_turn_X6_carries_3 : GoodIn wsX6_turn wsX60 := goodIn_r _ [89, 90, 91, 92, 93, 94, 95, 96, 97, 98, 99, 100, 101] (by decide +kernel) (by decide +kernel)
set_option maxRecDepth 20000 in
theorem ggX6_turn_X6_carries : GoodIn wsX6_turn wsX6_carries := goodIn_c1 ggX6_turn_X6_carries_h (goodIn_app (goodIn_app ggX6_turn_X6_carries_0 (goodIn_app ggX6_turn_X6_carries_1 ggX6_turn_X6_carries_2)) ggX6_turn_X6_carries_3)
set_option maxRecDepth 20000 in
theorem gX6_turn_X6_carries : GoodIn wsX6_turn (wsV RX6 106 RX6 yX6_carries wsX6_carries) := goodIn_app (goodIn_of _ (by decide +kernel)) ggX6_turn_X6_carries
set_option maxRecDepth 20000 in
theorem ggX6_turn_X6_mergeFault : GoodIn wsX6_turn wsX6_mergeFault := goodIn_r _ [80, 1, 11, 12, 13, 5, 14, 15, 16, 17, 89, 90, 91, 92, 93, 94, 95, 96, 97, 98, 99, 100, 101] (by decide +kernel) (by decide +kernel)
set_option maxRecDepth 20000 in
theorem gX6_turn_X6_mergeFault : GoodIn wsX6_turn (wsV RX6 158 RX6 yX6_mergeFault wsX6_mergeFault) := goodIn_app (goodIn_of _ (by decide +kernel)) ggX6_turn_X6_mergeFault
set_option maxRecDepth 20000 in
theorem ggX6_turn_X6_merges : GoodIn wsX6_turn wsX6_merges := goodIn_r _ [84, 1, 30, 31, 5, 32, 85, 86, 87, 88, 89, 90, 91, 92, 93, 94, 95, 96, 97, 98, 99, 100, 101] (by decide +kernel) (by decide +kernel)
set_option maxRecDepth 20000 in
theorem gX6_turn_X6_merges : GoodIn wsX6_turn (wsV RX6 161 RX6 yX6_merges wsX6_merges) := goodIn_app (goodIn_of _ (by decide +kernel)) ggX6_turn_X6_merges
theorem dX6_turn_0 : decode cX6_turn 0 = .ok (.iload_n 1, 1) := by decide +kernel
theorem dX6_turn_1 : decode cX6_turn 1 = .ok (.bipush 16, 2) := by decide +kernel
theorem dX6_turn_3 : decode cX6_turn 3 = .ok (.idiv, 1) := by decide +kernel
theorem dX6_turn_4 : decode cX6_turn 4 = .ok (.aload_n 0, 1) := by decide +kernel
theorem dX6_turn_5 : decode cX6_turn 5 = .ok (.getfield 7, 3) := by decide +kernel
theorem dX6_turn_8 : decode cX6_turn 8 = .ok (.iconst 1, 1) := by decide +kernel
theorem dX6_turn_9 : decode cX6_turn 9 = .ok (.iaload, 1) := by decide +kernel
theorem dX6_turn_10 : decode cX6_turn 10 = .ok (.irem, 1) := by decide +kernel
theorem dX6_turn_11 : decode cX6_turn 11 = .ok (.istore_n 3, 1) := by decide +kernel
theorem dX6_turn_12 : decode cX6_turn 12 = .ok (.iload_n 1, 1) := by decide +kernel
theorem dX6_turn_13 : decode cX6_turn 13 = .ok (.bipush 64, 2) := by decide +kernel
theorem dX6_turn_15 : decode cX6_turn 15 = .ok (.idiv, 1) := by decide +kernel
theorem dX6_turn_16 : decode cX6_turn 16 = .ok (.iload_n 2, 1) := by decide +kernel
theorem dX6_turn_17 : decode cX6_turn 17 = .ok (.irem, 1) := by decide +kernel
theorem dX6_turn_18 : decode cX6_turn 18 = .ok (.istore 4, 2) := by decide +kernel
theorem dX6_turn_20 : decode cX6_turn 20 = .ok (.iload_n 1, 1) := by decide +kernel
theorem dX6_turn_21 : decode cX6_turn 21 = .ok (.bipush 16, 2) := by decide +kernel
theorem dX6_turn_23 : decode cX6_turn 23 = .ok (.irem, 1) := by decide +kernel
theorem dX6_turn_24 : decode cX6_turn 24 = .ok (.istore 5, 2) := by decide +kernel
theorem dX6_turn_26 : decode cX6_turn 26 = .ok (.iload 5, 2) := by decide +kernel
theorem dX6_turn_28 : decode cX6_turn 28 = .ok (.iconst 4, 1) := by decide +kernel
theorem dX6_turn_29 : decode cX6_turn 29 = .ok (.if_icmp .gt 21, 3) := by decide +kernel
theorem dX6_turn_32 : decode cX6_turn 32 = .ok (.aload_n 0, 1) := by decide +kernel
theorem dX6_turn_33 : decode cX6_turn 33 = .ok (.bipush 99, 2) := by decide +kernel
theorem dX6_turn_35 : decode cX6_turn 35 = .ok (.iload_n 1, 1) := by decide +kernel
theorem dX6_turn_36 : decode cX6_turn 36 = .ok (.bipush 64, 2) := by decide +kernel
theorem dX6_turn_38 : decode cX6_turn 38 = .ok (.idiv, 1) := by decide +kernel
theorem dX6_turn_39 : decode cX6_turn 39 = .ok (.iconst 3, 1) := by decide +kernel
theorem dX6_turn_40 : decode cX6_turn 40 = .ok (.irem, 1) := by decide +kernel
theorem dX6_turn_41 : decode cX6_turn 41 = .ok (.iload_n 3, 1) := by decide +kernel
theorem dX6_turn_42 : decode cX6_turn 42 = .ok (.invokevirtual 106, 3) := by decide +kernel
theorem dX6_turn_45 : decode cX6_turn 45 = .ok (.istore 6, 2) := by decide +kernel
theorem dX6_turn_47 : decode cX6_turn 47 = .ok (.goto 116, 3) := by decide +kernel
theorem dX6_turn_50 : decode cX6_turn 50 = .ok (.iload 5, 2) := by decide +kernel
theorem dX6_turn_52 : decode cX6_turn 52 = .ok (.bipush 7, 2) := by decide +kernel
theorem dX6_turn_54 : decode cX6_turn 54 = .ok (.if_icmp .gt 23, 3) := by decide +kernel
theorem dX6_turn_57 : decode cX6_turn 57 = .ok (.aload_n 0, 1) := by decide +kernel
theorem dX6_turn_58 : decode cX6_turn 58 = .ok (.bipush 120, 2) := by decide +kernel
theorem dX6_turn_60 : decode cX6_turn 60 = .ok (.iload 4, 2) := by decide +kernel
theorem dX6_turn_62 : decode cX6_turn 62 = .ok (.iload_n 1, 1) := by decide +kernel
theorem dX6_turn_63 : decode cX6_turn 63 = .ok (.sipush 2048, 3) := by decide +kernel
theorem dX6_turn_66 : decode cX6_turn 66 = .ok (.idiv, 1) := by decide +kernel
theorem dX6_turn_67 : decode cX6_turn 67 = .ok (.iload_n 2, 1) := by decide +kernel
theorem dX6_turn_68 : decode cX6_turn 68 = .ok (.irem, 1) := by decide +kernel
theorem dX6_turn_69 : decode cX6_turn 69 = .ok (.invokevirtual 106, 3) := by decide +kernel
theorem dX6_turn_72 : decode cX6_turn 72 = .ok (.istore 6, 2) := by decide +kernel
theorem dX6_turn_74 : decode cX6_turn 74 = .ok (.goto 89, 3) := by decide +kernel
theorem dX6_turn_77 : decode cX6_turn 77 = .ok (.iload 5, 2) := by decide +kernel
theorem dX6_turn_79 : decode cX6_turn 79 = .ok (.bipush 9, 2) := by decide +kernel
theorem dX6_turn_81 : decode cX6_turn 81 = .ok (.if_icmp .gt 17, 3) := by decide +kernel
theorem dX6_turn_84 : decode cX6_turn 84 = .ok (.aload_n 0, 1) := by decide +kernel
theorem dX6_turn_85 : decode cX6_turn 85 = .ok (.bipush 106, 2) := by decide +kernel
theorem dX6_turn_87 : decode cX6_turn 87 = .ok (.iload 4, 2) := by decide +kernel
theorem dX6_turn_89 : decode cX6_turn 89 = .ok (.iconst 0, 1) := by decide +kernel
theorem dX6_turn_90 : decode cX6_turn 90 = .ok (.invokevirtual 106, 3) := by decide +kernel
theorem dX6_turn_93 : decode cX6_turn 93 = .ok (.istore 6, 2) := by decide +kernel
theorem dX6_turn_95 : decode cX6_turn 95 = .ok (.goto 68, 3) := by decide +kernel
theorem dX6_turn_98 : decode cX6_turn 98 = .ok (.iload 5, 2) := by decide +kernel
theorem dX6_turn_100 : decode cX6_turn 100 = .ok (.bipush 10, 2) := by decide +kernel
theorem dX6_turn_102 : decode cX6_turn 102 = .ok (.if_icmp .ne 17, 3) := by decide +kernel
theorem dX6_turn_105 : decode cX6_turn 105 = .ok (.aload_n 0, 1) := by decide +kernel
theorem dX6_turn_106 : decode cX6_turn 106 = .ok (.bipush 103, 2) := by decide +kernel
theorem dX6_turn_108 : decode cX6_turn 108 = .ok (.iload 4, 2) := by decide +kernel
theorem dX6_turn_110 : decode cX6_turn 110 = .ok (.iconst 0, 1) := by decide +kernel
theorem dX6_turn_111 : decode cX6_turn 111 = .ok (.invokevirtual 106, 3) := by decide +kernel
theorem dX6_turn_114 : decode cX6_turn 114 = .ok (.istore 6, 2) := by decide +kernel
theorem dX6_turn_116 : decode cX6_turn 116 = .ok (.goto 47, 3) := by decide +kernel
theorem dX6_turn_119 : decode cX6_turn 119 = .ok (.iload 5, 2) := by decide +kernel
theorem dX6_turn_121 : decode cX6_turn 121 = .ok (.bipush 11, 2) := by decide +kernel
theorem dX6_turn_123 : decode cX6_turn 123 = .ok (.if_icmp .ne 40, 3) := by decide +kernel
theorem dX6_turn_126 : decode cX6_turn 126 = .ok (.aload_n 0, 1) := by decide +kernel
theorem dX6_turn_127 : decode cX6_turn 127 = .ok (.iload_n 3, 1) := by decide +kernel
theorem dX6_turn_128 : decode cX6_turn 128 = .ok (.iload_n 1, 1) := by decide +kernel
theorem dX6_turn_129 : decode cX6_turn 129 = .ok (.bipush 64, 2) := by decide +kernel
theorem dX6_turn_131 : decode cX6_turn 131 = .ok (.idiv, 1) := by decide +kernel
theorem dX6_turn_132 : decode cX6_turn 132 = .ok (.aload_n 0, 1) := by decide +kernel
theorem dX6_turn_133 : decode cX6_turn 133 = .ok (.getfield 7, 3) := by decide +kernel
theorem dX6_turn_136 : decode cX6_turn 136 = .ok (.iconst 1, 1) := by decide +kernel
theorem dX6_turn_137 : decode cX6_turn 137 = .ok (.iaload, 1) := by decide +kernel
theorem dX6_turn_138 : decode cX6_turn 138 = .ok (.irem, 1) := by decide +kernel
theorem dX6_turn_139 : decode cX6_turn 139 = .ok (.invokevirtual 158, 3) := by decide +kernel
theorem dX6_turn_142 : decode cX6_turn 142 = .ok (.ifCond .ne 21, 3) := by decide +kernel
theorem dX6_turn_145 : decode cX6_turn 145 = .ok (.aload_n 0, 1) := by decide +kernel
theorem dX6_turn_146 : decode cX6_turn 146 = .ok (.iload_n 3, 1) := by decide +kernel
theorem dX6_turn_147 : decode cX6_turn 147 = .ok (.iload_n 1, 1) := by decide +kernel
theorem dX6_turn_148 : decode cX6_turn 148 = .ok (.bipush 64, 2) := by decide +kernel
theorem dX6_turn_150 : decode cX6_turn 150 = .ok (.idiv, 1) := by decide +kernel
theorem dX6_turn_151 : decode cX6_turn 151 = .ok (.aload_n 0, 1) := by decide +kernel
theorem dX6_turn_152 : decode cX6_turn 152 = .ok (.getfield 7, 3) := by decide +kernel
theorem dX6_turn_155 : decode cX6_turn 155 = .ok (.iconst 1, 1) := by decide +kernel
theorem dX6_turn_156 : decode cX6_turn 156 = .ok (.iaload, 1) := by decide +kernel
theorem dX6_turn_157 : decode cX6_turn 157 = .ok (.irem, 1) := by decide +kernel
theorem dX6_turn_158 : decode cX6_turn 158 = .ok (.invokevirtual 161, 3) := by decide +kernel
theorem dX6_turn_161 : decode cX6_turn 161 = .ok (.istore 6, 2) := by decide +kernel
theorem dX6_turn_163 : decode cX6_turn 163 = .ok (.return_, 1) := by decide +kernel
set_option maxRecDepth 20000 in
theorem ggX6_save_X6_in : GoodIn wsX6_save wsX6_in := goodIn_r _ [7] (by decide +kernel) (by decide +kernel)
set_option maxRecDepth 20000 in
theorem gX6_save_X6_in : GoodIn wsX6_save (va_wsS RX6 47 yX6_in wsX6_in) := goodIn_app (goodIn_of _ (by decide +kernel)) ggX6_save_X6_in
set_option maxRecDepth 20000 in
theorem ggX6_save_X6_holds : GoodIn wsX6_save wsX6_holds := goodIn_r _ [11, 12, 13, 14, 15, 16, 17, 18, 19, 20, 21, 22, 23, 24, 25] (by decide +kernel) (by decide +kernel)
set_option maxRecDepth 20000 in
theorem gX6_save_X6_holds : GoodIn wsX6_save (wsV RX6 87 RX6 yX6_holds wsX6_holds) := goodIn_app (goodIn_of _ (by decide +kernel)) ggX6_save_X6_holds
theorem dX6_save_0 : decode cX6_save 0 = .ok (.aload_n 0, 1) := by decide +kernel
theorem dX6_save_1 : decode cX6_save 1 = .ok (.iload_n 1, 1) := by decide +kernel
theorem dX6_save_2 : decode cX6_save 2 = .ok (.iconst 0, 1) := by decide +kernel
theorem dX6_save_3 : decode cX6_save 3 = .ok (.iconst 1, 1) := by decide +kernel
theorem dX6_save_4 : decode cX6_save 4 = .ok (.invokestatic 47, 3) := by decide +kernel
theorem dX6_save_7 : decode cX6_save 7 = .ok (.ifCond .eq 7, 3) := by decide +kernel
theorem dX6_save_10 : decode cX6_save 10 = .ok (.iconst 0, 1) := by decide +kernel
theorem dX6_save_11 : decode cX6_save 11 = .ok (.goto 4, 3) := by decide +kernel
theorem dX6_save_14 : decode cX6_save 14 = .ok (.iconst 1, 1) := by decide +kernel
theorem dX6_save_15 : decode cX6_save 15 = .ok (.invokevirtual 87, 3) := by decide +kernel
theorem dX6_save_18 : decode cX6_save 18 = .ok (.ifCond .ne 5, 3) := by decide +kernel
theorem dX6_save_21 : decode cX6_save 21 = .ok (.iconst 0, 1) := by decide +kernel
theorem dX6_save_22 : decode cX6_save 22 = .ok (.ireturn, 1) := by decide +kernel
theorem dX6_save_23 : decode cX6_save 23 = .ok (.iconst 0, 1) := by decide +kernel
theorem dX6_save_24 : decode cX6_save 24 = .ok (.istore_n 2, 1) := by decide +kernel
theorem dX6_save_25 : decode cX6_save 25 = .ok (.iload_n 2, 1) := by decide +kernel
theorem dX6_save_26 : decode cX6_save 26 = .ok (.sipush 358, 3) := by decide +kernel
theorem dX6_save_29 : decode cX6_save 29 = .ok (.if_icmp .ge 27, 3) := by decide +kernel
theorem dX6_save_32 : decode cX6_save 32 = .ok (.aload_n 0, 1) := by decide +kernel
theorem dX6_save_33 : decode cX6_save 33 = .ok (.getfield 19, 3) := by decide +kernel
theorem dX6_save_36 : decode cX6_save 36 = .ok (.sipush 358, 3) := by decide +kernel
theorem dX6_save_39 : decode cX6_save 39 = .ok (.iload_n 1, 1) := by decide +kernel
theorem dX6_save_40 : decode cX6_save 40 = .ok (.imul, 1) := by decide +kernel
theorem dX6_save_41 : decode cX6_save 41 = .ok (.iload_n 2, 1) := by decide +kernel
theorem dX6_save_42 : decode cX6_save 42 = .ok (.iadd, 1) := by decide +kernel
theorem dX6_save_43 : decode cX6_save 43 = .ok (.aload_n 0, 1) := by decide +kernel
theorem dX6_save_44 : decode cX6_save 44 = .ok (.getfield 7, 3) := by decide +kernel
theorem dX6_save_47 : decode cX6_save 47 = .ok (.iload_n 2, 1) := by decide +kernel
theorem dX6_save_48 : decode cX6_save 48 = .ok (.iaload, 1) := by decide +kernel
theorem dX6_save_49 : decode cX6_save 49 = .ok (.iastore, 1) := by decide +kernel
theorem dX6_save_50 : decode cX6_save 50 = .ok (.iinc 2 1, 3) := by decide +kernel
theorem dX6_save_53 : decode cX6_save 53 = .ok (.goto (-28), 3) := by decide +kernel
theorem dX6_save_56 : decode cX6_save 56 = .ok (.aload_n 0, 1) := by decide +kernel
theorem dX6_save_57 : decode cX6_save 57 = .ok (.getfield 22, 3) := by decide +kernel
theorem dX6_save_60 : decode cX6_save 60 = .ok (.iload_n 1, 1) := by decide +kernel
theorem dX6_save_61 : decode cX6_save 61 = .ok (.iconst 1, 1) := by decide +kernel
theorem dX6_save_62 : decode cX6_save 62 = .ok (.bastore, 1) := by decide +kernel
theorem dX6_save_63 : decode cX6_save 63 = .ok (.aload_n 0, 1) := by decide +kernel
theorem dX6_save_64 : decode cX6_save 64 = .ok (.getfield 7, 3) := by decide +kernel
theorem dX6_save_67 : decode cX6_save 67 = .ok (.iconst 0, 1) := by decide +kernel
theorem dX6_save_68 : decode cX6_save 68 = .ok (.iaload, 1) := by decide +kernel
theorem dX6_save_69 : decode cX6_save 69 = .ok (.ireturn, 1) := by decide +kernel
set_option maxRecDepth 20000 in
theorem ggX6_restore_X6_in : GoodIn wsX6_restore wsX6_in := goodIn_r _ [8] (by decide +kernel) (by decide +kernel)
set_option maxRecDepth 20000 in
theorem gX6_restore_X6_in : GoodIn wsX6_restore (va_wsS RX6 47 yX6_in wsX6_in) := goodIn_app (goodIn_of _ (by decide +kernel)) ggX6_restore_X6_in
set_option maxRecDepth 20000 in
theorem ggX6_restore_X6_holds : GoodIn wsX6_restore wsX6_holds := goodIn_r _ [12, 13, 14, 15, 16, 17, 18, 19, 20, 21, 22, 23, 24, 25, 26] (by decide +kernel) (by decide +kernel)
set_option maxRecDepth 20000 in
theorem gX6_restore_X6_holds : GoodIn wsX6_restore (wsV RX6 87 RX6 yX6_holds wsX6_holds) := goodIn_app (goodIn_of _ (by decide +kernel)) ggX6_restore_X6_holds
theorem dX6_restore_0 : decode cX6_restore 0 = .ok (.aload_n 0, 1) := by decide +kernel
theorem dX6_restore_1 : decode cX6_restore 1 = .ok (.iload_n 1, 1) := by decide +kernel
theorem dX6_restore_2 : decode cX6_restore 2 = .ok (.iconst 0, 1) := by decide +kernel
theorem dX6_restore_3 : decode cX6_restore 3 = .ok (.iconst 1, 1) := by decide +kernel
theorem dX6_restore_4 : decode cX6_restore 4 = .ok (.invokestatic 47, 3) := by decide +kernel
theorem dX6_restore_7 : decode cX6_restore 7 = .ok (.ifCond .ne 7, 3) := by decide +kernel
theorem dX6_restore_10 : decode cX6_restore 10 = .ok (.iconst 1, 1) := by decide +kernel
theorem dX6_restore_11 : decode cX6_restore 11 = .ok (.goto 17, 3) := by decide +kernel
theorem dX6_restore_14 : decode cX6_restore 14 = .ok (.aload_n 0, 1) := by decide +kernel
theorem dX6_restore_15 : decode cX6_restore 15 = .ok (.getfield 22, 3) := by decide +kernel
theorem dX6_restore_18 : decode cX6_restore 18 = .ok (.iload_n 1, 1) := by decide +kernel
theorem dX6_restore_19 : decode cX6_restore 19 = .ok (.baload, 1) := by decide +kernel
theorem dX6_restore_20 : decode cX6_restore 20 = .ok (.ifCond .ne 7, 3) := by decide +kernel
theorem dX6_restore_23 : decode cX6_restore 23 = .ok (.iconst 2, 1) := by decide +kernel
theorem dX6_restore_24 : decode cX6_restore 24 = .ok (.goto 4, 3) := by decide +kernel
theorem dX6_restore_27 : decode cX6_restore 27 = .ok (.iconst 0, 1) := by decide +kernel
theorem dX6_restore_28 : decode cX6_restore 28 = .ok (.invokevirtual 87, 3) := by decide +kernel
theorem dX6_restore_31 : decode cX6_restore 31 = .ok (.ifCond .ne 5, 3) := by decide +kernel
theorem dX6_restore_34 : decode cX6_restore 34 = .ok (.iconst 0, 1) := by decide +kernel
theorem dX6_restore_35 : decode cX6_restore 35 = .ok (.ireturn, 1) := by decide +kernel
theorem dX6_restore_36 : decode cX6_restore 36 = .ok (.iconst 0, 1) := by decide +kernel
theorem dX6_restore_37 : decode cX6_restore 37 = .ok (.istore_n 2, 1) := by decide +kernel
theorem dX6_restore_38 : decode cX6_restore 38 = .ok (.iload_n 2, 1) := by decide +kernel
theorem dX6_restore_39 : decode cX6_restore 39 = .ok (.sipush 358, 3) := by decide +kernel
theorem dX6_restore_42 : decode cX6_restore 42 = .ok (.if_icmp .ge 27, 3) := by decide +kernel
theorem dX6_restore_45 : decode cX6_restore 45 = .ok (.aload_n 0, 1) := by decide +kernel
theorem dX6_restore_46 : decode cX6_restore 46 = .ok (.getfield 7, 3) := by decide +kernel
theorem dX6_restore_49 : decode cX6_restore 49 = .ok (.iload_n 2, 1) := by decide +kernel
theorem dX6_restore_50 : decode cX6_restore 50 = .ok (.aload_n 0, 1) := by decide +kernel
theorem dX6_restore_51 : decode cX6_restore 51 = .ok (.getfield 19, 3) := by decide +kernel
theorem dX6_restore_54 : decode cX6_restore 54 = .ok (.sipush 358, 3) := by decide +kernel
theorem dX6_restore_57 : decode cX6_restore 57 = .ok (.iload_n 1, 1) := by decide +kernel
theorem dX6_restore_58 : decode cX6_restore 58 = .ok (.imul, 1) := by decide +kernel
theorem dX6_restore_59 : decode cX6_restore 59 = .ok (.iload_n 2, 1) := by decide +kernel
theorem dX6_restore_60 : decode cX6_restore 60 = .ok (.iadd, 1) := by decide +kernel
theorem dX6_restore_61 : decode cX6_restore 61 = .ok (.iaload, 1) := by decide +kernel
theorem dX6_restore_62 : decode cX6_restore 62 = .ok (.iastore, 1) := by decide +kernel
theorem dX6_restore_63 : decode cX6_restore 63 = .ok (.iinc 2 1, 3) := by decide +kernel
theorem dX6_restore_66 : decode cX6_restore 66 = .ok (.goto (-28), 3) := by decide +kernel
theorem dX6_restore_69 : decode cX6_restore 69 = .ok (.aload_n 0, 1) := by decide +kernel
theorem dX6_restore_70 : decode cX6_restore 70 = .ok (.iconst 0, 1) := by decide +kernel
theorem dX6_restore_71 : decode cX6_restore 71 = .ok (.putfield 41, 3) := by decide +kernel
theorem dX6_restore_74 : decode cX6_restore 74 = .ok (.aload_n 0, 1) := by decide +kernel
theorem dX6_restore_75 : decode cX6_restore 75 = .ok (.getfield 7, 3) := by decide +kernel
theorem dX6_restore_78 : decode cX6_restore 78 = .ok (.iconst 0, 1) := by decide +kernel
theorem dX6_restore_79 : decode cX6_restore 79 = .ok (.iaload, 1) := by decide +kernel
theorem dX6_restore_80 : decode cX6_restore 80 = .ok (.ireturn, 1) := by decide +kernel
theorem dJ9_floorMod_7cf53_0 : decode cJ9_floorMod_7cf53 0 = .ok (.iload_n 0, 1) := by decide +kernel
theorem dJ9_floorMod_7cf53_1 : decode cJ9_floorMod_7cf53 1 = .ok (.iload_n 1, 1) := by decide +kernel
theorem dJ9_floorMod_7cf53_2 : decode cJ9_floorMod_7cf53 2 = .ok (.irem, 1) := by decide +kernel
theorem dJ9_floorMod_7cf53_3 : decode cJ9_floorMod_7cf53 3 = .ok (.istore_n 2, 1) := by decide +kernel
theorem dJ9_floorMod_7cf53_4 : decode cJ9_floorMod_7cf53 4 = .ok (.iload_n 0, 1) := by decide +kernel
theorem dJ9_floorMod_7cf53_5 : decode cJ9_floorMod_7cf53 5 = .ok (.iload_n 1, 1) := by decide +kernel
theorem dJ9_floorMod_7cf53_6 : decode cJ9_floorMod_7cf53 6 = .ok (.ixor, 1) := by decide +kernel
theorem dJ9_floorMod_7cf53_7 : decode cJ9_floorMod_7cf53 7 = .ok (.ifCond .ge 11, 3) := by decide +kernel
theorem dJ9_floorMod_7cf53_10 : decode cJ9_floorMod_7cf53 10 = .ok (.iload_n 2, 1) := by decide +kernel
theorem dJ9_floorMod_7cf53_11 : decode cJ9_floorMod_7cf53 11 = .ok (.ifCond .eq 7, 3) := by decide +kernel
theorem dJ9_floorMod_7cf53_14 : decode cJ9_floorMod_7cf53 14 = .ok (.iload_n 2, 1) := by decide +kernel
theorem dJ9_floorMod_7cf53_15 : decode cJ9_floorMod_7cf53 15 = .ok (.iload_n 1, 1) := by decide +kernel
theorem dJ9_floorMod_7cf53_16 : decode cJ9_floorMod_7cf53 16 = .ok (.iadd, 1) := by decide +kernel
theorem dJ9_floorMod_7cf53_17 : decode cJ9_floorMod_7cf53 17 = .ok (.ireturn, 1) := by decide +kernel
theorem dJ9_floorMod_7cf53_18 : decode cJ9_floorMod_7cf53 18 = .ok (.iload_n 2, 1) := by decide +kernel
theorem dJ9_floorMod_7cf53_19 : decode cJ9_floorMod_7cf53 19 = .ok (.ireturn, 1) := by decide +kernel
theorem dJ9_max_7cf53_0 : decode cJ9_max_7cf53 0 = .ok (.iload_n 0, 1) := by decide +kernel
theorem dJ9_max_7cf53_1 : decode cJ9_max_7cf53 1 = .ok (.iload_n 1, 1) := by decide +kernel
theorem dJ9_max_7cf53_2 : decode cJ9_max_7cf53 2 = .ok (.if_icmp .lt 7, 3) := by decide +kernel
theorem dJ9_max_7cf53_5 : decode cJ9_max_7cf53 5 = .ok (.iload_n 0, 1) := by decide +kernel
theorem dJ9_max_7cf53_6 : decode cJ9_max_7cf53 6 = .ok (.goto 4, 3) := by decide +kernel
theorem dJ9_max_7cf53_9 : decode cJ9_max_7cf53 9 = .ok (.iload_n 1, 1) := by decide +kernel
theorem dJ9_max_7cf53_10 : decode cJ9_max_7cf53 10 = .ok (.ireturn, 1) := by decide +kernel
theorem dJ9_min_7cf53_0 : decode cJ9_min_7cf53 0 = .ok (.iload_n 0, 1) := by decide +kernel
theorem dJ9_min_7cf53_1 : decode cJ9_min_7cf53 1 = .ok (.iload_n 1, 1) := by decide +kernel
theorem dJ9_min_7cf53_2 : decode cJ9_min_7cf53 2 = .ok (.if_icmp .gt 7, 3) := by decide +kernel
theorem dJ9_min_7cf53_5 : decode cJ9_min_7cf53 5 = .ok (.iload_n 0, 1) := by decide +kernel
theorem dJ9_min_7cf53_6 : decode cJ9_min_7cf53 6 = .ok (.goto 4, 3) := by decide +kernel
theorem dJ9_min_7cf53_9 : decode cJ9_min_7cf53 9 = .ok (.iload_n 1, 1) := by decide +kernel
theorem dJ9_min_7cf53_10 : decode cJ9_min_7cf53 10 = .ok (.ireturn, 1) := by decide +kernel
set_option maxRecDepth 20000 in
theorem ggL_append_X5_append : GoodIn wsL_append wsX5_append := goodIn_ca (goodIn_ca (goodIn_r _ [7, 8, 9, 10, 11, 12, 13, 14, 15, 16, 17, 18, 19, 20, 21, 22, 23, 24, 25, 26, 27, 28, 29, 30, 31, 32, 33] (by decide +kernel) (by decide +kernel)) (goodIn_sub (fun _ h => List.mem_cons_of_mem _ (List.mem_append_left _ (List.mem_append_right _ h))) (by decide +kernel))) (goodIn_sub (fun _ h => List.mem_cons_of_mem _ (List.mem_append_right _ h)) (by decide +kernel))
set_option maxRecDepth 20000 in
theorem gL_append_X5_append : GoodIn wsL_append (wsV RL 7 RX5 yX5_append wsX5_append) := goodIn_app (goodIn_of _ (by decide +kernel)) ggL_append_X5_append

