set_option maxRecDepth 20000 in
theorem gX6_runScript_X6_succeeds : GoodIn wsX6_runScript (wsV RX6 190 RX6 yX6_succeeds wsX6_succeeds) := goodIn_app (goodIn_of _ (by decide +kernel)) ggX6_runScript_X6_succeeds
set_option maxRecDepth 20000 in
theorem ggX6_runScript_X6_pop : GoodIn wsX6_runScript wsX6_pop := goodIn_r _ [111, 19, 20, 18, 112, 113, 114, 115, 116, 117, 118, 119, 120, 121, 122, 123, 124] (by decide +kernel) (by decide +kernel)
set_option maxRecDepth 20000 in
theorem gX6_runScript_X6_pop : GoodIn wsX6_runScript (wsV RX6 170 RX6 yX6_pop wsX6_pop) := goodIn_app (goodIn_of _ (by decide +kernel)) ggX6_runScript_X6_pop
theorem dX6_runScript_0 : decode cX6_runScript 0 = .ok (.iload_n 1, 1) := by decide +kernel
theorem dX6_runScript_1 : decode cX6_runScript 1 = .ok (.iconst 1, 1) := by decide +kernel
theorem dX6_runScript_2 : decode cX6_runScript 2 = .ok (.if_icmp .ne 9, 3) := by decide +kernel
theorem dX6_runScript_5 : decode cX6_runScript 5 = .ok (.ldc2_w 182, 3) := by decide +kernel
theorem dX6_runScript_8 : decode cX6_runScript 8 = .ok (.goto 17, 3) := by decide +kernel
theorem dX6_runScript_11 : decode cX6_runScript 11 = .ok (.iload_n 1, 1) := by decide +kernel
theorem dX6_runScript_12 : decode cX6_runScript 12 = .ok (.iconst 2, 1) := by decide +kernel
theorem dX6_runScript_13 : decode cX6_runScript 13 = .ok (.if_icmp .ne 9, 3) := by decide +kernel
theorem dX6_runScript_16 : decode cX6_runScript 16 = .ok (.ldc2_w 184, 3) := by decide +kernel
theorem dX6_runScript_19 : decode cX6_runScript 19 = .ok (.goto 6, 3) := by decide +kernel
theorem dX6_runScript_22 : decode cX6_runScript 22 = .ok (.ldc2_w 186, 3) := by decide +kernel
theorem dX6_runScript_25 : decode cX6_runScript 25 = .ok (.lstore 4, 2) := by decide +kernel
theorem dX6_runScript_27 : decode cX6_runScript 27 = .ok (.aload_n 0, 1) := by decide +kernel
theorem dX6_runScript_28 : decode cX6_runScript 28 = .ok (.iload_n 1, 1) := by decide +kernel
theorem dX6_runScript_29 : decode cX6_runScript 29 = .ok (.iconst 1, 1) := by decide +kernel
theorem dX6_runScript_30 : decode cX6_runScript 30 = .ok (.iconst 3, 1) := by decide +kernel
theorem dX6_runScript_31 : decode cX6_runScript 31 = .ok (.invokestatic 47, 3) := by decide +kernel
theorem dX6_runScript_34 : decode cX6_runScript 34 = .ok (.ifCond .eq 20, 3) := by decide +kernel
theorem dX6_runScript_37 : decode cX6_runScript 37 = .ok (.lload_n 2, 1) := by decide +kernel
theorem dX6_runScript_38 : decode cX6_runScript 38 = .ok (.lconst 0, 1) := by decide +kernel
theorem dX6_runScript_39 : decode cX6_runScript 39 = .ok (.lcmp, 1) := by decide +kernel
theorem dX6_runScript_40 : decode cX6_runScript 40 = .ok (.ifCond .lt 14, 3) := by decide +kernel
theorem dX6_runScript_43 : decode cX6_runScript 43 = .ok (.lload_n 2, 1) := by decide +kernel
theorem dX6_runScript_44 : decode cX6_runScript 44 = .ok (.lload 4, 2) := by decide +kernel
theorem dX6_runScript_46 : decode cX6_runScript 46 = .ok (.lcmp, 1) := by decide +kernel
theorem dX6_runScript_47 : decode cX6_runScript 47 = .ok (.ifCond .gt 7, 3) := by decide +kernel
theorem dX6_runScript_50 : decode cX6_runScript 50 = .ok (.iconst 0, 1) := by decide +kernel
theorem dX6_runScript_51 : decode cX6_runScript 51 = .ok (.goto 4, 3) := by decide +kernel
theorem dX6_runScript_54 : decode cX6_runScript 54 = .ok (.iconst 1, 1) := by decide +kernel
theorem dX6_runScript_55 : decode cX6_runScript 55 = .ok (.invokevirtual 87, 3) := by decide +kernel
theorem dX6_runScript_58 : decode cX6_runScript 58 = .ok (.ifCond .ne 5, 3) := by decide +kernel
theorem dX6_runScript_61 : decode cX6_runScript 61 = .ok (.iconst 0, 1) := by decide +kernel
theorem dX6_runScript_62 : decode cX6_runScript 62 = .ok (.ireturn, 1) := by decide +kernel
theorem dX6_runScript_63 : decode cX6_runScript 63 = .ok (.aload_n 0, 1) := by decide +kernel
theorem dX6_runScript_64 : decode cX6_runScript 64 = .ok (.invokevirtual 167, 3) := by decide +kernel
theorem dX6_runScript_67 : decode cX6_runScript 67 = .ok (.iconst (-1), 1) := by decide +kernel
theorem dX6_runScript_68 : decode cX6_runScript 68 = .ok (.istore 6, 2) := by decide +kernel
theorem dX6_runScript_70 : decode cX6_runScript 70 = .ok (.iconst 0, 1) := by decide +kernel
theorem dX6_runScript_71 : decode cX6_runScript 71 = .ok (.istore 7, 2) := by decide +kernel
theorem dX6_runScript_73 : decode cX6_runScript 73 = .ok (.iload 7, 2) := by decide +kernel
theorem dX6_runScript_75 : decode cX6_runScript 75 = .ok (.iload_n 1, 1) := by decide +kernel
theorem dX6_runScript_76 : decode cX6_runScript 76 = .ok (.if_icmp .ge 66, 3) := by decide +kernel
theorem dX6_runScript_79 : decode cX6_runScript 79 = .ok (.iload 6, 2) := by decide +kernel
theorem dX6_runScript_81 : decode cX6_runScript 81 = .ok (.iconst (-1), 1) := by decide +kernel
theorem dX6_runScript_82 : decode cX6_runScript 82 = .ok (.if_icmp .ne 60, 3) := by decide +kernel
theorem dX6_runScript_85 : decode cX6_runScript 85 = .ok (.lload_n 2, 1) := by decide +kernel
theorem dX6_runScript_86 : decode cX6_runScript 86 = .ok (.lstore 8, 2) := by decide +kernel
theorem dX6_runScript_88 : decode cX6_runScript 88 = .ok (.iload 7, 2) := by decide +kernel
theorem dX6_runScript_90 : decode cX6_runScript 90 = .ok (.iconst 1, 1) := by decide +kernel
theorem dX6_runScript_91 : decode cX6_runScript 91 = .ok (.iadd, 1) := by decide +kernel
theorem dX6_runScript_92 : decode cX6_runScript 92 = .ok (.istore 10, 2) := by decide +kernel
theorem dX6_runScript_94 : decode cX6_runScript 94 = .ok (.iload 10, 2) := by decide +kernel
theorem dX6_runScript_96 : decode cX6_runScript 96 = .ok (.iload_n 1, 1) := by decide +kernel
theorem dX6_runScript_97 : decode cX6_runScript 97 = .ok (.if_icmp .ge 17, 3) := by decide +kernel
theorem dX6_runScript_100 : decode cX6_runScript 100 = .ok (.lload 8, 2) := by decide +kernel
theorem dX6_runScript_102 : decode cX6_runScript 102 = .ok (.ldc2_w 188, 3) := by decide +kernel
theorem dX6_runScript_105 : decode cX6_runScript 105 = .ok (.ldiv, 1) := by decide +kernel
theorem dX6_runScript_106 : decode cX6_runScript 106 = .ok (.lstore 8, 2) := by decide +kernel
theorem dX6_runScript_108 : decode cX6_runScript 108 = .ok (.iinc 10 1, 3) := by decide +kernel
theorem dX6_runScript_111 : decode cX6_runScript 111 = .ok (.goto (-17), 3) := by decide +kernel
theorem dX6_runScript_114 : decode cX6_runScript 114 = .ok (.aload_n 0, 1) := by decide +kernel
theorem dX6_runScript_115 : decode cX6_runScript 115 = .ok (.lload 8, 2) := by decide +kernel
theorem dX6_runScript_117 : decode cX6_runScript 117 = .ok (.ldc2_w 188, 3) := by decide +kernel
theorem dX6_runScript_120 : decode cX6_runScript 120 = .ok (.lrem, 1) := by decide +kernel
theorem dX6_runScript_121 : decode cX6_runScript 121 = .ok (.l2i, 1) := by decide +kernel
theorem dX6_runScript_122 : decode cX6_runScript 122 = .ok (.invokevirtual 190, 3) := by decide +kernel
theorem dX6_runScript_125 : decode cX6_runScript 125 = .ok (.ifCond .eq 7, 3) := by decide +kernel
theorem dX6_runScript_128 : decode cX6_runScript 128 = .ok (.iconst (-1), 1) := by decide +kernel
theorem dX6_runScript_129 : decode cX6_runScript 129 = .ok (.goto 5, 3) := by decide +kernel
theorem dX6_runScript_132 : decode cX6_runScript 132 = .ok (.iload 7, 2) := by decide +kernel
theorem dX6_runScript_134 : decode cX6_runScript 134 = .ok (.istore 6, 2) := by decide +kernel
theorem dX6_runScript_136 : decode cX6_runScript 136 = .ok (.iinc 7 1, 3) := by decide +kernel
theorem dX6_runScript_139 : decode cX6_runScript 139 = .ok (.goto (-66), 3) := by decide +kernel
theorem dX6_runScript_142 : decode cX6_runScript 142 = .ok (.aload_n 0, 1) := by decide +kernel
theorem dX6_runScript_143 : decode cX6_runScript 143 = .ok (.invokevirtual 170, 3) := by decide +kernel
theorem dX6_runScript_146 : decode cX6_runScript 146 = .ok (.iload 6, 2) := by decide +kernel
theorem dX6_runScript_148 : decode cX6_runScript 148 = .ok (.ireturn, 1) := by decide +kernel
set_option maxRecDepth 20000 in
theorem ggX6_simulate_X6_in : GoodIn wsX6_simulate wsX6_in := goodIn_r _ [7] (by decide +kernel) (by decide +kernel)
set_option maxRecDepth 20000 in
theorem gX6_simulate_X6_in : GoodIn wsX6_simulate (va_wsS RX6 47 yX6_in wsX6_in) := goodIn_app (goodIn_of _ (by decide +kernel)) ggX6_simulate_X6_in
set_option maxRecDepth 20000 in
theorem ggX6_simulate_X6_holds : GoodIn wsX6_simulate wsX6_holds := goodIn_r _ [11, 12, 110, 111, 112, 113, 114, 115, 116, 117, 118, 119, 120, 121, 122] (by decide +kernel) (by decide +kernel)
set_option maxRecDepth 20000 in
theorem gX6_simulate_X6_holds : GoodIn wsX6_simulate (wsV RX6 87 RX6 yX6_holds wsX6_holds) := goodIn_app (goodIn_of _ (by decide +kernel)) ggX6_simulate_X6_holds
set_option maxRecDepth 20000 in
theorem ggX6_simulate_X6_push : GoodIn wsX6_simulate wsX6_push := goodIn_r _ [16, 17, 18, 1, 110, 111, 112, 113, 114, 115, 116, 117, 118, 119, 120, 121, 122] (by decide +kernel) (by decide +kernel)
set_option maxRecDepth 20000 in
theorem gX6_simulate_X6_push : GoodIn wsX6_simulate (wsV RX6 167 RX6 yX6_push wsX6_push) := goodIn_app (goodIn_of _ (by decide +kernel)) ggX6_simulate_X6_push
