theorem dX6_gain_10 : decode cX6_gain 10 = .ok (.ifCond .eq 12, 3) := by decide +kernel
theorem dX6_gain_13 : decode cX6_gain 13 = .ok (.aload_n 0, 1) := by decide +kernel
theorem dX6_gain_14 : decode cX6_gain 14 = .ok (.iload_n 1, 1) := by decide +kernel
theorem dX6_gain_15 : decode cX6_gain 15 = .ok (.iload_n 2, 1) := by decide +kernel
theorem dX6_gain_16 : decode cX6_gain 16 = .ok (.invokevirtual 176, 3) := by decide +kernel
theorem dX6_gain_19 : decode cX6_gain 19 = .ok (.goto 4, 3) := by decide +kernel
theorem dX6_gain_22 : decode cX6_gain 22 = .ok (.iconst 0, 1) := by decide +kernel
theorem dX6_gain_23 : decode cX6_gain 23 = .ok (.ireturn, 1) := by decide +kernel
set_option maxRecDepth 20000 in
theorem ggX6_partner_X6_isPerson : GoodIn wsX6_partner wsX6_isPerson := goodIn_r _ [6, 1, 7, 8, 5, 9, 64, 65, 66, 67, 68, 69, 70, 71, 72, 73, 74, 75, 76] (by decide +kernel) (by decide +kernel)
set_option maxRecDepth 20000 in
theorem gX6_partner_X6_isPerson : GoodIn wsX6_partner (wsV RX6 59 RX6 yX6_isPerson wsX6_isPerson) := goodIn_app (goodIn_of _ (by decide +kernel)) ggX6_partner_X6_isPerson
set_option maxRecDepth 20000 in
theorem ggX6_partner_X6_holds : GoodIn wsX6_partner wsX6_holds := goodIn_r _ [13, 14, 64, 65, 66, 67, 68, 69, 70, 71, 72, 73, 74, 75, 76] (by decide +kernel) (by decide +kernel)
set_option maxRecDepth 20000 in
theorem gX6_partner_X6_holds : GoodIn wsX6_partner (wsV RX6 87 RX6 yX6_holds wsX6_holds) := goodIn_app (goodIn_of _ (by decide +kernel)) ggX6_partner_X6_holds
set_option maxRecDepth 20000 in
theorem ggX6_partner_X6_exchangeFault : GoodIn wsX6_partner wsX6_exchangeFault := goodIn_r _ [18, 1, 2, 3, 4, 5, 6, 7, 8, 9, 19, 20, 21, 22, 23, 24, 25, 26, 27, 28, 29, 64, 65, 66, 67, 68, 69, 70, 71, 72, 73, 74, 75, 76] (by decide +kernel) (by decide +kernel)
set_option maxRecDepth 20000 in
theorem gX6_partner_X6_exchangeFault : GoodIn wsX6_partner (wsV RX6 115 RX6 yX6_exchangeFault wsX6_exchangeFault) := goodIn_app (goodIn_of _ (by decide +kernel)) ggX6_partner_X6_exchangeFault
set_option maxRecDepth 20000 in
theorem ggX6_partner_X6_gained : GoodIn wsX6_partner wsX6_gained := goodIn_r _ [33, 34, 35, 36, 5, 37, 38, 39, 40, 41, 42, 43, 1, 19, 20, 21, 22, 23, 24, 25, 44, 45, 46, 47, 48, 49, 50, 51, 52, 53, 54, 55, 56, 57, 58, 59, 60, 61, 62, 63, 26, 27, 28, 29, 64, 65, 66, 67, 68, 69, 70, 71, 72, 73, 74, 75, 76] (by decide +kernel) (by decide +kernel)
set_option maxRecDepth 20000 in
theorem gX6_partner_X6_gained : GoodIn wsX6_partner (wsV RX6 176 RX6 yX6_gained wsX6_gained) := goodIn_app (goodIn_of _ (by decide +kernel)) ggX6_partner_X6_gained
theorem dX6_partner_0 : decode cX6_partner 0 = .ok (.aload_n 0, 1) := by decide +kernel
theorem dX6_partner_1 : decode cX6_partner 1 = .ok (.aload_n 0, 1) := by decide +kernel
theorem dX6_partner_2 : decode cX6_partner 2 = .ok (.iload_n 1, 1) := by decide +kernel
theorem dX6_partner_3 : decode cX6_partner 3 = .ok (.invokevirtual 59, 3) := by decide +kernel
theorem dX6_partner_6 : decode cX6_partner 6 = .ok (.ifCond .eq 7, 3) := by decide +kernel
theorem dX6_partner_9 : decode cX6_partner 9 = .ok (.iconst 0, 1) := by decide +kernel
theorem dX6_partner_10 : decode cX6_partner 10 = .ok (.goto 4, 3) := by decide +kernel
theorem dX6_partner_13 : decode cX6_partner 13 = .ok (.iconst 1, 1) := by decide +kernel
theorem dX6_partner_14 : decode cX6_partner 14 = .ok (.invokevirtual 87, 3) := by decide +kernel
theorem dX6_partner_17 : decode cX6_partner 17 = .ok (.ifCond .ne 5, 3) := by decide +kernel
theorem dX6_partner_20 : decode cX6_partner 20 = .ok (.iconst 0, 1) := by decide +kernel
theorem dX6_partner_21 : decode cX6_partner 21 = .ok (.ireturn, 1) := by decide +kernel
theorem dX6_partner_22 : decode cX6_partner 22 = .ok (.iconst (-1), 1) := by decide +kernel
theorem dX6_partner_23 : decode cX6_partner 23 = .ok (.istore_n 2, 1) := by decide +kernel
theorem dX6_partner_24 : decode cX6_partner 24 = .ok (.iconst 0, 1) := by decide +kernel
theorem dX6_partner_25 : decode cX6_partner 25 = .ok (.istore_n 3, 1) := by decide +kernel
theorem dX6_partner_26 : decode cX6_partner 26 = .ok (.iconst 0, 1) := by decide +kernel
theorem dX6_partner_27 : decode cX6_partner 27 = .ok (.istore 4, 2) := by decide +kernel
theorem dX6_partner_29 : decode cX6_partner 29 = .ok (.iload 4, 2) := by decide +kernel
theorem dX6_partner_31 : decode cX6_partner 31 = .ok (.aload_n 0, 1) := by decide +kernel
theorem dX6_partner_32 : decode cX6_partner 32 = .ok (.getfield 7, 3) := by decide +kernel
theorem dX6_partner_35 : decode cX6_partner 35 = .ok (.iconst 2, 1) := by decide +kernel
theorem dX6_partner_36 : decode cX6_partner 36 = .ok (.iaload, 1) := by decide +kernel
theorem dX6_partner_37 : decode cX6_partner 37 = .ok (.if_icmp .ge 70, 3) := by decide +kernel
theorem dX6_partner_40 : decode cX6_partner 40 = .ok (.aload_n 0, 1) := by decide +kernel
theorem dX6_partner_41 : decode cX6_partner 41 = .ok (.iload_n 1, 1) := by decide +kernel
theorem dX6_partner_42 : decode cX6_partner 42 = .ok (.iload 4, 2) := by decide +kernel
theorem dX6_partner_44 : decode cX6_partner 44 = .ok (.invokevirtual 115, 3) := by decide +kernel
theorem dX6_partner_47 : decode cX6_partner 47 = .ok (.ifCond .ne 54, 3) := by decide +kernel
theorem dX6_partner_50 : decode cX6_partner 50 = .ok (.aload_n 0, 1) := by decide +kernel
theorem dX6_partner_51 : decode cX6_partner 51 = .ok (.iload_n 1, 1) := by decide +kernel
theorem dX6_partner_52 : decode cX6_partner 52 = .ok (.iload 4, 2) := by decide +kernel
theorem dX6_partner_54 : decode cX6_partner 54 = .ok (.invokevirtual 176, 3) := by decide +kernel
theorem dX6_partner_57 : decode cX6_partner 57 = .ok (.istore 5, 2) := by decide +kernel
theorem dX6_partner_59 : decode cX6_partner 59 = .ok (.iload_n 2, 1) := by decide +kernel
theorem dX6_partner_60 : decode cX6_partner 60 = .ok (.iconst (-1), 1) := by decide +kernel
theorem dX6_partner_61 : decode cX6_partner 61 = .ok (.if_icmp .eq 9, 3) := by decide +kernel
theorem dX6_partner_64 : decode cX6_partner 64 = .ok (.iload 5, 2) := by decide +kernel
theorem dX6_partner_66 : decode cX6_partner 66 = .ok (.iload_n 3, 1) := by decide +kernel
theorem dX6_partner_67 : decode cX6_partner 67 = .ok (.if_icmp .le 7, 3) := by decide +kernel
theorem dX6_partner_70 : decode cX6_partner 70 = .ok (.iconst 1, 1) := by decide +kernel
theorem dX6_partner_71 : decode cX6_partner 71 = .ok (.goto 4, 3) := by decide +kernel
theorem dX6_partner_74 : decode cX6_partner 74 = .ok (.iconst 0, 1) := by decide +kernel
theorem dX6_partner_75 : decode cX6_partner 75 = .ok (.istore 6, 2) := by decide +kernel
theorem dX6_partner_77 : decode cX6_partner 77 = .ok (.iload 6, 2) := by decide +kernel
theorem dX6_partner_79 : decode cX6_partner 79 = .ok (.ifCond .eq 8, 3) := by decide +kernel
theorem dX6_partner_82 : decode cX6_partner 82 = .ok (.iload 4, 2) := by decide +kernel
theorem dX6_partner_84 : decode cX6_partner 84 = .ok (.goto 4, 3) := by decide +kernel
theorem dX6_partner_87 : decode cX6_partner 87 = .ok (.iload_n 2, 1) := by decide +kernel
theorem dX6_partner_88 : decode cX6_partner 88 = .ok (.istore_n 2, 1) := by decide +kernel
theorem dX6_partner_89 : decode cX6_partner 89 = .ok (.iload 6, 2) := by decide +kernel
theorem dX6_partner_91 : decode cX6_partner 91 = .ok (.ifCond .eq 8, 3) := by decide +kernel
theorem dX6_partner_94 : decode cX6_partner 94 = .ok (.iload 5, 2) := by decide +kernel
theorem dX6_partner_96 : decode cX6_partner 96 = .ok (.goto 4, 3) := by decide +kernel
theorem dX6_partner_99 : decode cX6_partner 99 = .ok (.iload_n 3, 1) := by decide +kernel
theorem dX6_partner_100 : decode cX6_partner 100 = .ok (.istore_n 3, 1) := by decide +kernel
theorem dX6_partner_101 : decode cX6_partner 101 = .ok (.iinc 4 1, 3) := by decide +kernel
theorem dX6_partner_104 : decode cX6_partner 104 = .ok (.goto (-75), 3) := by decide +kernel
theorem dX6_partner_107 : decode cX6_partner 107 = .ok (.iload_n 2, 1) := by decide +kernel
theorem dX6_partner_108 : decode cX6_partner 108 = .ok (.ireturn, 1) := by decide +kernel
set_option maxRecDepth 20000 in
theorem ggX6_bestLine_X6_comeFault : GoodIn wsX6_bestLine wsX6_comeFault := goodIn_r _ [7, 2, 8, 9, 10, 6, 11, 12, 13, 14, 52, 53, 54, 55, 56, 57, 58, 59, 60, 61, 62, 63, 64] (by decide +kernel) (by decide +kernel)
set_option maxRecDepth 20000 in
theorem gX6_bestLine_X6_comeFault : GoodIn wsX6_bestLine (wsV RX6 109 RX6 yX6_comeFault wsX6_comeFault) := goodIn_app (goodIn_of _ (by decide +kernel)) ggX6_bestLine_X6_comeFault
set_option maxRecDepth 20000 in
theorem ggX6_bestLine_X6_push : GoodIn wsX6_bestLine wsX6_push := goodIn_r _ [18, 19, 20, 2, 52, 53, 54, 55, 56, 57, 58, 59, 60, 61, 62, 63, 64] (by decide +kernel) (by decide +kernel)
set_option maxRecDepth 20000 in
theorem gX6_bestLine_X6_push : GoodIn wsX6_bestLine (wsV RX6 167 RX6 yX6_push wsX6_push) := goodIn_app (goodIn_of _ (by decide +kernel)) ggX6_bestLine_X6_push
set_option maxRecDepth 20000 in
theorem ggX6_bestLine_X6_comes : GoodIn wsX6_bestLine wsX6_comes := goodIn_r _ [24, 2, 25, 26, 6, 27, 52, 53, 54, 55, 56, 57, 58, 59, 60, 61, 62, 63, 64] (by decide +kernel) (by decide +kernel)
set_option maxRecDepth 20000 in
theorem gX6_bestLine_X6_comes : GoodIn wsX6_bestLine (wsV RX6 121 RX6 yX6_comes wsX6_comes) := goodIn_app (goodIn_of _ (by decide +kernel)) ggX6_bestLine_X6_comes
set_option maxRecDepth 20000 in
theorem ggX6_bestLine_X6_turnOf : GoodIn wsX6_bestLine wsX6_turnOf := goodIn_r _ [31, 15, 16, 17, 6, 18, 19, 20, 2, 32, 33, 34, 35, 25, 26, 27, 36, 37, 38, 39, 40, 41, 42, 43, 44, 45, 46, 47, 48, 49, 50, 51, 52, 53, 54, 55, 56, 57, 58, 59, 60, 61, 62, 63, 64] (by decide +kernel) (by decide +kernel)
set_option maxRecDepth 20000 in
theorem gX6_bestLine_X6_turnOf : GoodIn wsX6_bestLine (wsV RX6 173 RX6 yX6_turnOf wsX6_turnOf) := goodIn_app (goodIn_of _ (by decide +kernel)) ggX6_bestLine_X6_turnOf
set_option maxRecDepth 20000 in
theorem ggX6_bestLine_X6_pop : GoodIn wsX6_bestLine wsX6_pop := goodIn_r _ [51, 20, 2, 19, 52, 53, 54, 55, 56, 57, 58, 59, 60, 61, 62, 63, 64] (by decide +kernel) (by decide +kernel)
set_option maxRecDepth 20000 in
theorem gX6_bestLine_X6_pop : GoodIn wsX6_bestLine (wsV RX6 170 RX6 yX6_pop wsX6_pop) := goodIn_app (goodIn_of _ (by decide +kernel)) ggX6_bestLine_X6_pop
theorem dX6_bestLine_0 : decode cX6_bestLine 0 = .ok (.aload_n 0, 1) := by decide +kernel
theorem dX6_bestLine_1 : decode cX6_bestLine 1 = .ok (.iconst 0, 1) := by decide +kernel
theorem dX6_bestLine_2 : decode cX6_bestLine 2 = .ok (.putfield 37, 3) := by decide +kernel
theorem dX6_bestLine_5 : decode cX6_bestLine 5 = .ok (.iconst (-1), 1) := by decide +kernel
theorem dX6_bestLine_6 : decode cX6_bestLine 6 = .ok (.istore_n 1, 1) := by decide +kernel
theorem dX6_bestLine_7 : decode cX6_bestLine 7 = .ok (.iconst 0, 1) := by decide +kernel
theorem dX6_bestLine_8 : decode cX6_bestLine 8 = .ok (.istore_n 2, 1) := by decide +kernel
theorem dX6_bestLine_9 : decode cX6_bestLine 9 = .ok (.iconst 0, 1) := by decide +kernel
theorem dX6_bestLine_10 : decode cX6_bestLine 10 = .ok (.istore_n 3, 1) := by decide +kernel
theorem dX6_bestLine_11 : decode cX6_bestLine 11 = .ok (.iload_n 3, 1) := by decide +kernel
theorem dX6_bestLine_12 : decode cX6_bestLine 12 = .ok (.aload_n 0, 1) := by decide +kernel
theorem dX6_bestLine_13 : decode cX6_bestLine 13 = .ok (.getfield 7, 3) := by decide +kernel
theorem dX6_bestLine_16 : decode cX6_bestLine 16 = .ok (.iconst 1, 1) := by decide +kernel
theorem dX6_bestLine_17 : decode cX6_bestLine 17 = .ok (.iaload, 1) := by decide +kernel
theorem dX6_bestLine_18 : decode cX6_bestLine 18 = .ok (.if_icmp .ge 79, 3) := by decide +kernel
theorem dX6_bestLine_21 : decode cX6_bestLine 21 = .ok (.aload_n 0, 1) := by decide +kernel
theorem dX6_bestLine_22 : decode cX6_bestLine 22 = .ok (.iload_n 3, 1) := by decide +kernel
theorem dX6_bestLine_23 : decode cX6_bestLine 23 = .ok (.iconst 0, 1) := by decide +kernel
theorem dX6_bestLine_24 : decode cX6_bestLine 24 = .ok (.invokevirtual 109, 3) := by decide +kernel
theorem dX6_bestLine_27 : decode cX6_bestLine 27 = .ok (.ifCond .ne 64, 3) := by decide +kernel
theorem dX6_bestLine_30 : decode cX6_bestLine 30 = .ok (.aload_n 0, 1) := by decide +kernel
theorem dX6_bestLine_31 : decode cX6_bestLine 31 = .ok (.invokevirtual 167, 3) := by decide +kernel
theorem dX6_bestLine_34 : decode cX6_bestLine 34 = .ok (.aload_n 0, 1) := by decide +kernel
theorem dX6_bestLine_35 : decode cX6_bestLine 35 = .ok (.aload_n 0, 1) := by decide +kernel
theorem dX6_bestLine_36 : decode cX6_bestLine 36 = .ok (.iload_n 3, 1) := by decide +kernel
theorem dX6_bestLine_37 : decode cX6_bestLine 37 = .ok (.iconst 0, 1) := by decide +kernel
theorem dX6_bestLine_38 : decode cX6_bestLine 38 = .ok (.invokevirtual 121, 3) := by decide +kernel
theorem dX6_bestLine_41 : decode cX6_bestLine 41 = .ok (.invokevirtual 173, 3) := by decide +kernel
theorem dX6_bestLine_44 : decode cX6_bestLine 44 = .ok (.istore 4, 2) := by decide +kernel
theorem dX6_bestLine_46 : decode cX6_bestLine 46 = .ok (.aload_n 0, 1) := by decide +kernel
theorem dX6_bestLine_47 : decode cX6_bestLine 47 = .ok (.invokevirtual 170, 3) := by decide +kernel
theorem dX6_bestLine_50 : decode cX6_bestLine 50 = .ok (.iload_n 1, 1) := by decide +kernel
theorem dX6_bestLine_51 : decode cX6_bestLine 51 = .ok (.iconst (-1), 1) := by decide +kernel
theorem dX6_bestLine_52 : decode cX6_bestLine 52 = .ok (.if_icmp .eq 9, 3) := by decide +kernel
theorem dX6_bestLine_55 : decode cX6_bestLine 55 = .ok (.iload 4, 2) := by decide +kernel
theorem dX6_bestLine_57 : decode cX6_bestLine 57 = .ok (.iload_n 2, 1) := by decide +kernel
theorem dX6_bestLine_58 : decode cX6_bestLine 58 = .ok (.if_icmp .ge 7, 3) := by decide +kernel
theorem dX6_bestLine_61 : decode cX6_bestLine 61 = .ok (.iconst 1, 1) := by decide +kernel
theorem dX6_bestLine_62 : decode cX6_bestLine 62 = .ok (.goto 4, 3) := by decide +kernel
theorem dX6_bestLine_65 : decode cX6_bestLine 65 = .ok (.iconst 0, 1) := by decide +kernel
theorem dX6_bestLine_66 : decode cX6_bestLine 66 = .ok (.istore 5, 2) := by decide +kernel
theorem dX6_bestLine_68 : decode cX6_bestLine 68 = .ok (.iload 5, 2) := by decide +kernel
theorem dX6_bestLine_70 : decode cX6_bestLine 70 = .ok (.ifCond .eq 7, 3) := by decide +kernel
theorem dX6_bestLine_73 : decode cX6_bestLine 73 = .ok (.iload_n 3, 1) := by decide +kernel
theorem dX6_bestLine_74 : decode cX6_bestLine 74 = .ok (.goto 4, 3) := by decide +kernel
theorem dX6_bestLine_77 : decode cX6_bestLine 77 = .ok (.iload_n 1, 1) := by decide +kernel
theorem dX6_bestLine_78 : decode cX6_bestLine 78 = .ok (.istore_n 1, 1) := by decide +kernel
theorem dX6_bestLine_79 : decode cX6_bestLine 79 = .ok (.iload 5, 2) := by decide +kernel
theorem dX6_bestLine_81 : decode cX6_bestLine 81 = .ok (.ifCond .eq 8, 3) := by decide +kernel
theorem dX6_bestLine_84 : decode cX6_bestLine 84 = .ok (.iload 4, 2) := by decide +kernel
theorem dX6_bestLine_86 : decode cX6_bestLine 86 = .ok (.goto 4, 3) := by decide +kernel
theorem dX6_bestLine_89 : decode cX6_bestLine 89 = .ok (.iload_n 2, 1) := by decide +kernel
theorem dX6_bestLine_90 : decode cX6_bestLine 90 = .ok (.istore_n 2, 1) := by decide +kernel
theorem dX6_bestLine_91 : decode cX6_bestLine 91 = .ok (.iinc 3 1, 3) := by decide +kernel
theorem dX6_bestLine_94 : decode cX6_bestLine 94 = .ok (.goto (-83), 3) := by decide +kernel
theorem dX6_bestLine_97 : decode cX6_bestLine 97 = .ok (.iload_n 1, 1) := by decide +kernel
theorem dX6_bestLine_98 : decode cX6_bestLine 98 = .ok (.ireturn, 1) := by decide +kernel
set_option maxRecDepth 20000 in
theorem ggX6_longest_X6_isStanding : GoodIn wsX6_longest wsX6_isStanding := goodIn_r _ [7, 2, 8, 9, 6, 10, 37, 38, 39, 40, 41, 42, 43, 44, 45, 46, 47, 48, 49] (by decide +kernel) (by decide +kernel)
set_option maxRecDepth 20000 in
theorem gX6_longest_X6_isStanding : GoodIn wsX6_longest (wsV RX6 62 RX6 yX6_isStanding wsX6_isStanding) := goodIn_app (goodIn_of _ (by decide +kernel)) ggX6_longest_X6_isStanding
set_option maxRecDepth 20000 in
theorem ggX6_longest_X6_of : GoodIn wsX6_longest wsX6_of := goodIn_r _ [10] (by decide +kernel) (by decide +kernel)
set_option maxRecDepth 20000 in
theorem gX6_longest_X6_of : GoodIn wsX6_longest (va_wsS RX6 51 yX6_of wsX6_of) := goodIn_app (goodIn_of _ (by decide +kernel)) ggX6_longest_X6_of
set_option maxRecDepth 20000 in
theorem ggX6_longest_X6_turnOf : GoodIn wsX6_longest wsX6_turnOf := goodIn_r _ [14, 15, 16, 17, 6, 18, 19, 20, 2, 3, 4, 5, 7, 8, 9, 10, 21, 22, 23, 24, 25, 26, 27, 28, 29, 30, 31, 32, 33, 34, 35, 36, 37, 38, 39, 40, 41, 42, 43, 44, 45, 46, 47, 48, 49] (by decide +kernel) (by decide +kernel)
set_option maxRecDepth 20000 in
theorem gX6_longest_X6_turnOf : GoodIn wsX6_longest (wsV RX6 173 RX6 yX6_turnOf wsX6_turnOf) := goodIn_app (goodIn_of _ (by decide +kernel)) ggX6_longest_X6_turnOf
theorem dX6_longest_0 : decode cX6_longest 0 = .ok (.aload_n 0, 1) := by decide +kernel
theorem dX6_longest_1 : decode cX6_longest 1 = .ok (.iconst 0, 1) := by decide +kernel
theorem dX6_longest_2 : decode cX6_longest 2 = .ok (.putfield 37, 3) := by decide +kernel
theorem dX6_longest_5 : decode cX6_longest 5 = .ok (.iconst (-1), 1) := by decide +kernel
theorem dX6_longest_6 : decode cX6_longest 6 = .ok (.istore_n 1, 1) := by decide +kernel
theorem dX6_longest_7 : decode cX6_longest 7 = .ok (.iconst (-1), 1) := by decide +kernel
theorem dX6_longest_8 : decode cX6_longest 8 = .ok (.istore_n 2, 1) := by decide +kernel
theorem dX6_longest_9 : decode cX6_longest 9 = .ok (.iconst 0, 1) := by decide +kernel
theorem dX6_longest_10 : decode cX6_longest 10 = .ok (.istore_n 3, 1) := by decide +kernel
theorem dX6_longest_11 : decode cX6_longest 11 = .ok (.iload_n 3, 1) := by decide +kernel
theorem dX6_longest_12 : decode cX6_longest 12 = .ok (.aload_n 0, 1) := by decide +kernel
theorem dX6_longest_13 : decode cX6_longest 13 = .ok (.getfield 7, 3) := by decide +kernel
theorem dX6_longest_16 : decode cX6_longest 16 = .ok (.iconst 2, 1) := by decide +kernel
theorem dX6_longest_17 : decode cX6_longest 17 = .ok (.iaload, 1) := by decide +kernel
theorem dX6_longest_18 : decode cX6_longest 18 = .ok (.if_icmp .ge 60, 3) := by decide +kernel
theorem dX6_longest_21 : decode cX6_longest 21 = .ok (.aload_n 0, 1) := by decide +kernel
theorem dX6_longest_22 : decode cX6_longest 22 = .ok (.iload_n 3, 1) := by decide +kernel
theorem dX6_longest_23 : decode cX6_longest 23 = .ok (.invokevirtual 62, 3) := by decide +kernel
theorem dX6_longest_26 : decode cX6_longest 26 = .ok (.ifCond .eq 46, 3) := by decide +kernel
theorem dX6_longest_29 : decode cX6_longest 29 = .ok (.aload_n 0, 1) := by decide +kernel
theorem dX6_longest_30 : decode cX6_longest 30 = .ok (.getfield 7, 3) := by decide +kernel
theorem dX6_longest_33 : decode cX6_longest 33 = .ok (.iload_n 3, 1) := by decide +kernel
theorem dX6_longest_34 : decode cX6_longest 34 = .ok (.iconst 2, 1) := by decide +kernel
theorem dX6_longest_35 : decode cX6_longest 35 = .ok (.invokestatic 51, 3) := by decide +kernel
theorem dX6_longest_38 : decode cX6_longest 38 = .ok (.iaload, 1) := by decide +kernel
theorem dX6_longest_39 : decode cX6_longest 39 = .ok (.aload_n 0, 1) := by decide +kernel
theorem dX6_longest_40 : decode cX6_longest 40 = .ok (.iload_n 3, 1) := by decide +kernel
theorem dX6_longest_41 : decode cX6_longest 41 = .ok (.invokevirtual 173, 3) := by decide +kernel
theorem dX6_longest_44 : decode cX6_longest 44 = .ok (.iadd, 1) := by decide +kernel
theorem dX6_longest_45 : decode cX6_longest 45 = .ok (.istore 4, 2) := by decide +kernel
theorem dX6_longest_47 : decode cX6_longest 47 = .ok (.iload 4, 2) := by decide +kernel
theorem dX6_longest_49 : decode cX6_longest 49 = .ok (.iload_n 2, 1) := by decide +kernel
theorem dX6_longest_50 : decode cX6_longest 50 = .ok (.if_icmp .le 7, 3) := by decide +kernel
theorem dX6_longest_53 : decode cX6_longest 53 = .ok (.iload_n 3, 1) := by decide +kernel
theorem dX6_longest_54 : decode cX6_longest 54 = .ok (.goto 4, 3) := by decide +kernel
theorem dX6_longest_57 : decode cX6_longest 57 = .ok (.iload_n 1, 1) := by decide +kernel
theorem dX6_longest_58 : decode cX6_longest 58 = .ok (.istore_n 1, 1) := by decide +kernel
theorem dX6_longest_59 : decode cX6_longest 59 = .ok (.iload 4, 2) := by decide +kernel
theorem dX6_longest_61 : decode cX6_longest 61 = .ok (.iload_n 2, 1) := by decide +kernel
theorem dX6_longest_62 : decode cX6_longest 62 = .ok (.if_icmp .le 8, 3) := by decide +kernel
theorem dX6_longest_65 : decode cX6_longest 65 = .ok (.iload 4, 2) := by decide +kernel
theorem dX6_longest_67 : decode cX6_longest 67 = .ok (.goto 4, 3) := by decide +kernel
theorem dX6_longest_70 : decode cX6_longest 70 = .ok (.iload_n 2, 1) := by decide +kernel
theorem dX6_longest_71 : decode cX6_longest 71 = .ok (.istore_n 2, 1) := by decide +kernel
theorem dX6_longest_72 : decode cX6_longest 72 = .ok (.iinc 3 1, 3) := by decide +kernel
theorem dX6_longest_75 : decode cX6_longest 75 = .ok (.goto (-64), 3) := by decide +kernel
theorem dX6_longest_78 : decode cX6_longest 78 = .ok (.iload_n 1, 1) := by decide +kernel
theorem dX6_longest_79 : decode cX6_longest 79 = .ok (.ireturn, 1) := by decide +kernel
set_option maxRecDepth 20000 in
theorem ggX6_turns_X6_isStanding : GoodIn wsX6_turns wsX6_isStanding := goodIn_r _ [6, 1, 7, 8, 5, 9, 36, 37, 38, 39, 40, 41, 42, 43, 44, 45, 46, 47, 48] (by decide +kernel) (by decide +kernel)
set_option maxRecDepth 20000 in
theorem gX6_turns_X6_isStanding : GoodIn wsX6_turns (wsV RX6 62 RX6 yX6_isStanding wsX6_isStanding) := goodIn_app (goodIn_of _ (by decide +kernel)) ggX6_turns_X6_isStanding
set_option maxRecDepth 20000 in
theorem ggX6_turns_X6_turnOf : GoodIn wsX6_turns wsX6_turnOf := goodIn_r _ [13, 14, 15, 16, 5, 17, 18, 19, 1, 2, 3, 4, 6, 7, 8, 9, 20, 21, 22, 23, 24, 25, 26, 27, 28, 29, 30, 31, 32, 33, 34, 35, 36, 37, 38, 39, 40, 41, 42, 43, 44, 45, 46, 47, 48] (by decide +kernel) (by decide +kernel)
set_option maxRecDepth 20000 in
theorem gX6_turns_X6_turnOf : GoodIn wsX6_turns (wsV RX6 173 RX6 yX6_turnOf wsX6_turnOf) := goodIn_app (goodIn_of _ (by decide +kernel)) ggX6_turns_X6_turnOf
theorem dX6_turns_0 : decode cX6_turns 0 = .ok (.iconst 0, 1) := by decide +kernel
theorem dX6_turns_1 : decode cX6_turns 1 = .ok (.istore_n 1, 1) := by decide +kernel
theorem dX6_turns_2 : decode cX6_turns 2 = .ok (.iconst 0, 1) := by decide +kernel
theorem dX6_turns_3 : decode cX6_turns 3 = .ok (.istore_n 2, 1) := by decide +kernel
theorem dX6_turns_4 : decode cX6_turns 4 = .ok (.iload_n 2, 1) := by decide +kernel
theorem dX6_turns_5 : decode cX6_turns 5 = .ok (.aload_n 0, 1) := by decide +kernel
theorem dX6_turns_6 : decode cX6_turns 6 = .ok (.getfield 7, 3) := by decide +kernel
theorem dX6_turns_9 : decode cX6_turns 9 = .ok (.iconst 2, 1) := by decide +kernel
theorem dX6_turns_10 : decode cX6_turns 10 = .ok (.iaload, 1) := by decide +kernel
theorem dX6_turns_11 : decode cX6_turns 11 = .ok (.if_icmp .ge 29, 3) := by decide +kernel
theorem dX6_turns_14 : decode cX6_turns 14 = .ok (.iload_n 1, 1) := by decide +kernel
theorem dX6_turns_15 : decode cX6_turns 15 = .ok (.aload_n 0, 1) := by decide +kernel
theorem dX6_turns_16 : decode cX6_turns 16 = .ok (.iload_n 2, 1) := by decide +kernel
theorem dX6_turns_17 : decode cX6_turns 17 = .ok (.invokevirtual 62, 3) := by decide +kernel
theorem dX6_turns_20 : decode cX6_turns 20 = .ok (.ifCond .eq 11, 3) := by decide +kernel
theorem dX6_turns_23 : decode cX6_turns 23 = .ok (.aload_n 0, 1) := by decide +kernel
theorem dX6_turns_24 : decode cX6_turns 24 = .ok (.iload_n 2, 1) := by decide +kernel
theorem dX6_turns_25 : decode cX6_turns 25 = .ok (.invokevirtual 173, 3) := by decide +kernel
theorem dX6_turns_28 : decode cX6_turns 28 = .ok (.goto 4, 3) := by decide +kernel
theorem dX6_turns_31 : decode cX6_turns 31 = .ok (.iconst 0, 1) := by decide +kernel
theorem dX6_turns_32 : decode cX6_turns 32 = .ok (.iadd, 1) := by decide +kernel
theorem dX6_turns_33 : decode cX6_turns 33 = .ok (.istore_n 1, 1) := by decide +kernel
theorem dX6_turns_34 : decode cX6_turns 34 = .ok (.iinc 2 1, 3) := by decide +kernel
theorem dX6_turns_37 : decode cX6_turns 37 = .ok (.goto (-33), 3) := by decide +kernel
theorem dX6_turns_40 : decode cX6_turns 40 = .ok (.iload_n 1, 1) := by decide +kernel
theorem dX6_turns_41 : decode cX6_turns 41 = .ok (.ireturn, 1) := by decide +kernel
set_option maxRecDepth 20000 in
theorem ggX6_saved_X6_mergeFault : GoodIn wsX6_saved wsX6_mergeFault := goodIn_r _ [5, 6, 7, 8, 9, 4, 10, 11, 12, 13, 64, 65, 66, 67, 68, 69, 70, 71, 72, 73, 74, 75, 76] (by decide +kernel) (by decide +kernel)
set_option maxRecDepth 20000 in
theorem gX6_saved_X6_mergeFault : GoodIn wsX6_saved (wsV RX6 158 RX6 yX6_mergeFault wsX6_mergeFault) := goodIn_app (goodIn_of _ (by decide +kernel)) ggX6_saved_X6_mergeFault
set_option maxRecDepth 20000 in
theorem ggX6_saved_X6_holds : GoodIn wsX6_saved wsX6_holds := goodIn_r _ [17, 18, 64, 65, 66, 67, 68, 69, 70, 71, 72, 73, 74, 75, 76] (by decide +kernel) (by decide +kernel)
set_option maxRecDepth 20000 in
theorem gX6_saved_X6_holds : GoodIn wsX6_saved (wsV RX6 87 RX6 yX6_holds wsX6_holds) := goodIn_app (goodIn_of _ (by decide +kernel)) ggX6_saved_X6_holds
set_option maxRecDepth 20000 in
theorem ggX6_saved_X6_turns : GoodIn wsX6_saved wsX6_turns := goodIn_r _ [22, 6, 23, 24, 25, 4, 26, 27, 28, 29, 30, 31, 32, 33, 34, 35, 36, 37, 38, 39, 40, 41, 42, 43, 44, 45, 46, 47, 48, 49, 50, 51, 52, 53, 54, 55, 64, 65, 66, 67, 68, 69, 70, 71, 72, 73, 74, 75, 76] (by decide +kernel) (by decide +kernel)
set_option maxRecDepth 20000 in
theorem gX6_saved_X6_turns : GoodIn wsX6_saved (wsV RX6 179 RX6 yX6_turns wsX6_turns) := goodIn_app (goodIn_of _ (by decide +kernel)) ggX6_saved_X6_turns
set_option maxRecDepth 20000 in
theorem ggX6_saved_X6_push : GoodIn wsX6_saved wsX6_push := goodIn_r _ [37, 38, 39, 6, 64, 65, 66, 67, 68, 69, 70, 71, 72, 73, 74, 75, 76] (by decide +kernel) (by decide +kernel)
set_option maxRecDepth 20000 in
theorem gX6_saved_X6_push : GoodIn wsX6_saved (wsV RX6 167 RX6 yX6_push wsX6_push) := goodIn_app (goodIn_of _ (by decide +kernel)) ggX6_saved_X6_push
set_option maxRecDepth 20000 in
theorem ggX6_saved_X6_merges : GoodIn wsX6_saved wsX6_merges := goodIn_r _ [59, 6, 27, 28, 4, 29, 60, 61, 62, 63, 64, 65, 66, 67, 68, 69, 70, 71, 72, 73, 74, 75, 76] (by decide +kernel) (by decide +kernel)
set_option maxRecDepth 20000 in
theorem gX6_saved_X6_merges : GoodIn wsX6_saved (wsV RX6 161 RX6 yX6_merges wsX6_merges) := goodIn_app (goodIn_of _ (by decide +kernel)) ggX6_saved_X6_merges
set_option maxRecDepth 20000 in
theorem ggX6_saved_X6_pop : GoodIn wsX6_saved wsX6_pop := goodIn_r _ [55, 39, 6, 38, 64, 65, 66, 67, 68, 69, 70, 71, 72, 73, 74, 75, 76] (by decide +kernel) (by decide +kernel)
set_option maxRecDepth 20000 in
theorem gX6_saved_X6_pop : GoodIn wsX6_saved (wsV RX6 170 RX6 yX6_pop wsX6_pop) := goodIn_app (goodIn_of _ (by decide +kernel)) ggX6_saved_X6_pop
theorem dX6_saved_0 : decode cX6_saved 0 = .ok (.aload_n 0, 1) := by decide +kernel
theorem dX6_saved_1 : decode cX6_saved 1 = .ok (.aload_n 0, 1) := by decide +kernel
theorem dX6_saved_2 : decode cX6_saved 2 = .ok (.iload_n 1, 1) := by decide +kernel
theorem dX6_saved_3 : decode cX6_saved 3 = .ok (.iload_n 2, 1) := by decide +kernel
theorem dX6_saved_4 : decode cX6_saved 4 = .ok (.invokevirtual 158, 3) := by decide +kernel
theorem dX6_saved_7 : decode cX6_saved 7 = .ok (.invokevirtual 87, 3) := by decide +kernel
theorem dX6_saved_10 : decode cX6_saved 10 = .ok (.ifCond .ne 5, 3) := by decide +kernel
theorem dX6_saved_13 : decode cX6_saved 13 = .ok (.iconst 0, 1) := by decide +kernel
theorem dX6_saved_14 : decode cX6_saved 14 = .ok (.ireturn, 1) := by decide +kernel
theorem dX6_saved_15 : decode cX6_saved 15 = .ok (.aload_n 0, 1) := by decide +kernel
theorem dX6_saved_16 : decode cX6_saved 16 = .ok (.invokevirtual 179, 3) := by decide +kernel
theorem dX6_saved_19 : decode cX6_saved 19 = .ok (.istore_n 3, 1) := by decide +kernel
theorem dX6_saved_20 : decode cX6_saved 20 = .ok (.aload_n 0, 1) := by decide +kernel
theorem dX6_saved_21 : decode cX6_saved 21 = .ok (.invokevirtual 167, 3) := by decide +kernel
theorem dX6_saved_24 : decode cX6_saved 24 = .ok (.aload_n 0, 1) := by decide +kernel
theorem dX6_saved_25 : decode cX6_saved 25 = .ok (.iload_n 1, 1) := by decide +kernel
theorem dX6_saved_26 : decode cX6_saved 26 = .ok (.iload_n 2, 1) := by decide +kernel
theorem dX6_saved_27 : decode cX6_saved 27 = .ok (.invokevirtual 161, 3) := by decide +kernel
theorem dX6_saved_30 : decode cX6_saved 30 = .ok (.istore 4, 2) := by decide +kernel
theorem dX6_saved_32 : decode cX6_saved 32 = .ok (.aload_n 0, 1) := by decide +kernel
theorem dX6_saved_33 : decode cX6_saved 33 = .ok (.invokevirtual 179, 3) := by decide +kernel
theorem dX6_saved_36 : decode cX6_saved 36 = .ok (.istore 5, 2) := by decide +kernel
theorem dX6_saved_38 : decode cX6_saved 38 = .ok (.aload_n 0, 1) := by decide +kernel
theorem dX6_saved_39 : decode cX6_saved 39 = .ok (.invokevirtual 170, 3) := by decide +kernel
theorem dX6_saved_42 : decode cX6_saved 42 = .ok (.iload_n 3, 1) := by decide +kernel
theorem dX6_saved_43 : decode cX6_saved 43 = .ok (.iload 5, 2) := by decide +kernel
theorem dX6_saved_45 : decode cX6_saved 45 = .ok (.isub, 1) := by decide +kernel
theorem dX6_saved_46 : decode cX6_saved 46 = .ok (.ireturn, 1) := by decide +kernel
set_option maxRecDepth 20000 in
theorem ggX6_succeeds_X6_carries : GoodIn wsX6_succeeds wsX6_carries := goodIn_r _ [6, 7, 8, 9, 5, 10, 1, 11, 12, 13, 14, 15, 16, 17, 18, 19, 20, 21, 22, 23, 24, 25, 26, 27, 28, 29, 30, 31, 32, 33, 34, 35, 36, 37, 38, 39, 40, 41, 42, 43, 44, 45, 46, 47, 48, 49, 50, 51, 52, 53, 54, 55, 56, 57, 58, 59, 60, 61, 62, 63, 64, 65, 66, 67, 68, 69, 70, 71, 72, 73, 74, 75, 76, 89, 90, 91, 92, 93, 94, 95, 96, 97, 98, 99, 100, 101] (by decide +kernel) (by decide +kernel)
set_option maxRecDepth 20000 in
theorem gX6_succeeds_X6_carries : GoodIn wsX6_succeeds (wsV RX6 106 RX6 yX6_carries wsX6_carries) := goodIn_app (goodIn_of _ (by decide +kernel)) ggX6_succeeds_X6_carries
set_option maxRecDepth 20000 in
theorem ggX6_succeeds_X6_mergeFault : GoodIn wsX6_succeeds wsX6_mergeFault := goodIn_r _ [80, 1, 11, 12, 13, 5, 14, 15, 16, 17, 89, 90, 91, 92, 93, 94, 95, 96, 97, 98, 99, 100, 101] (by decide +kernel) (by decide +kernel)
set_option maxRecDepth 20000 in
theorem gX6_succeeds_X6_mergeFault : GoodIn wsX6_succeeds (wsV RX6 158 RX6 yX6_mergeFault wsX6_mergeFault) := goodIn_app (goodIn_of _ (by decide +kernel)) ggX6_succeeds_X6_mergeFault
set_option maxRecDepth 20000 in
theorem ggX6_succeeds_X6_merges : GoodIn wsX6_succeeds wsX6_merges := goodIn_r _ [84, 1, 30, 31, 5, 32, 85, 86, 87, 88, 89, 90, 91, 92, 93, 94, 95, 96, 97, 98, 99, 100, 101] (by decide +kernel) (by decide +kernel)
set_option maxRecDepth 20000 in
theorem gX6_succeeds_X6_merges : GoodIn wsX6_succeeds (wsV RX6 161 RX6 yX6_merges wsX6_merges) := goodIn_app (goodIn_of _ (by decide +kernel)) ggX6_succeeds_X6_merges
set_option maxRecDepth 20000 in
theorem ggX6_succeeds_X6_in : GoodIn wsX6_succeeds wsX6_in := goodIn_r _ [17] (by decide +kernel) (by decide +kernel)
set_option maxRecDepth 20000 in
theorem gX6_succeeds_X6_in : GoodIn wsX6_succeeds (va_wsS RX6 47 yX6_in wsX6_in) := goodIn_app (goodIn_of _ (by decide +kernel)) ggX6_succeeds_X6_in
set_option maxRecDepth 20000 in
theorem ggX6_succeeds_X6_isPerson : GoodIn wsX6_succeeds wsX6_isPerson := goodIn_r _ [25, 1, 15, 16, 5, 17, 89, 90, 91, 92, 93, 94, 95, 96, 97, 98, 99, 100, 101] (by decide +kernel) (by decide +kernel)
set_option maxRecDepth 20000 in
theorem gX6_succeeds_X6_isPerson : GoodIn wsX6_succeeds (wsV RX6 59 RX6 yX6_isPerson wsX6_isPerson) := goodIn_app (goodIn_of _ (by decide +kernel)) ggX6_succeeds_X6_isPerson
set_option maxRecDepth 20000 in
theorem ggX6_succeeds_X6_of : GoodIn wsX6_succeeds wsX6_of := goodIn_r _ [32] (by decide +kernel) (by decide +kernel)
set_option maxRecDepth 20000 in
theorem gX6_succeeds_X6_of : GoodIn wsX6_succeeds (va_wsS RX6 51 yX6_of wsX6_of) := goodIn_app (goodIn_of _ (by decide +kernel)) ggX6_succeeds_X6_of
set_option maxRecDepth 20000 in
theorem ggX6_succeeds_X6_isStanding : GoodIn wsX6_succeeds wsX6_isStanding := goodIn_r _ [29, 1, 30, 31, 5, 32, 89, 90, 91, 92, 93, 94, 95, 96, 97, 98, 99, 100, 101] (by decide +kernel) (by decide +kernel)
set_option maxRecDepth 20000 in
theorem gX6_succeeds_X6_isStanding : GoodIn wsX6_succeeds (wsV RX6 62 RX6 yX6_isStanding wsX6_isStanding) := goodIn_app (goodIn_of _ (by decide +kernel)) ggX6_succeeds_X6_isStanding
set_option maxRecDepth 20000 in
theorem ggX6_succeeds_X6_placeOf : GoodIn wsX6_succeeds wsX6_placeOf := goodIn_r _ [40, 1, 30, 31, 5, 32, 89, 90, 91, 92, 93, 94, 95, 96, 97, 98, 99, 100, 101] (by decide +kernel) (by decide +kernel)
set_option maxRecDepth 20000 in
theorem gX6_succeeds_X6_placeOf : GoodIn wsX6_succeeds (wsV RX6 65 RX6 yX6_placeOf wsX6_placeOf) := goodIn_app (goodIn_of _ (by decide +kernel)) ggX6_succeeds_X6_placeOf
theorem dX6_succeeds_0 : decode cX6_succeeds 0 = .ok (.iload_n 1, 1) := by decide +kernel
theorem dX6_succeeds_1 : decode cX6_succeeds 1 = .ok (.sipush 1000, 3) := by decide +kernel
theorem dX6_succeeds_4 : decode cX6_succeeds 4 = .ok (.idiv, 1) := by decide +kernel
theorem dX6_succeeds_5 : decode cX6_succeeds 5 = .ok (.bipush 10, 2) := by decide +kernel
theorem dX6_succeeds_7 : decode cX6_succeeds 7 = .ok (.irem, 1) := by decide +kernel
theorem dX6_succeeds_8 : decode cX6_succeeds 8 = .ok (.istore_n 2, 1) := by decide +kernel
theorem dX6_succeeds_9 : decode cX6_succeeds 9 = .ok (.iload_n 1, 1) := by decide +kernel
theorem dX6_succeeds_10 : decode cX6_succeeds 10 = .ok (.bipush 100, 2) := by decide +kernel
theorem dX6_succeeds_12 : decode cX6_succeeds 12 = .ok (.idiv, 1) := by decide +kernel
theorem dX6_succeeds_13 : decode cX6_succeeds 13 = .ok (.bipush 10, 2) := by decide +kernel
theorem dX6_succeeds_15 : decode cX6_succeeds 15 = .ok (.irem, 1) := by decide +kernel
theorem dX6_succeeds_16 : decode cX6_succeeds 16 = .ok (.istore_n 3, 1) := by decide +kernel
theorem dX6_succeeds_17 : decode cX6_succeeds 17 = .ok (.iload_n 1, 1) := by decide +kernel
theorem dX6_succeeds_18 : decode cX6_succeeds 18 = .ok (.bipush 100, 2) := by decide +kernel
theorem dX6_succeeds_20 : decode cX6_succeeds 20 = .ok (.idiv, 1) := by decide +kernel
theorem dX6_succeeds_21 : decode cX6_succeeds 21 = .ok (.bipush 100, 2) := by decide +kernel
theorem dX6_succeeds_23 : decode cX6_succeeds 23 = .ok (.irem, 1) := by decide +kernel
theorem dX6_succeeds_24 : decode cX6_succeeds 24 = .ok (.istore 4, 2) := by decide +kernel
theorem dX6_succeeds_26 : decode cX6_succeeds 26 = .ok (.iload_n 1, 1) := by decide +kernel
theorem dX6_succeeds_27 : decode cX6_succeeds 27 = .ok (.bipush 100, 2) := by decide +kernel
theorem dX6_succeeds_29 : decode cX6_succeeds 29 = .ok (.irem, 1) := by decide +kernel
theorem dX6_succeeds_30 : decode cX6_succeeds 30 = .ok (.istore 5, 2) := by decide +kernel
theorem dX6_succeeds_32 : decode cX6_succeeds 32 = .ok (.iload_n 1, 1) := by decide +kernel
theorem dX6_succeeds_33 : decode cX6_succeeds 33 = .ok (.sipush 10000, 3) := by decide +kernel
theorem dX6_succeeds_36 : decode cX6_succeeds 36 = .ok (.idiv, 1) := by decide +kernel
theorem dX6_succeeds_37 : decode cX6_succeeds 37 = .ok (.tableswitch 299 1 9 #[51, 73, 96, 107, 130, 171, 205, 240, 275], 51) := by decide +kernel
theorem dX6_succeeds_88 : decode cX6_succeeds 88 = .ok (.iload 5, 2) := by decide +kernel
theorem dX6_succeeds_90 : decode cX6_succeeds 90 = .ok (.ifCond .ne 18, 3) := by decide +kernel
theorem dX6_succeeds_93 : decode cX6_succeeds 93 = .ok (.aload_n 0, 1) := by decide +kernel
theorem dX6_succeeds_94 : decode cX6_succeeds 94 = .ok (.bipush 99, 2) := by decide +kernel
theorem dX6_succeeds_96 : decode cX6_succeeds 96 = .ok (.iload_n 3, 1) := by decide +kernel
theorem dX6_succeeds_97 : decode cX6_succeeds 97 = .ok (.iload_n 2, 1) := by decide +kernel
theorem dX6_succeeds_98 : decode cX6_succeeds 98 = .ok (.invokevirtual 106, 3) := by decide +kernel
theorem dX6_succeeds_101 : decode cX6_succeeds 101 = .ok (.ifCond .eq 7, 3) := by decide +kernel
theorem dX6_succeeds_104 : decode cX6_succeeds 104 = .ok (.iconst 1, 1) := by decide +kernel
theorem dX6_succeeds_105 : decode cX6_succeeds 105 = .ok (.goto 4, 3) := by decide +kernel
theorem dX6_succeeds_108 : decode cX6_succeeds 108 = .ok (.iconst 0, 1) := by decide +kernel
theorem dX6_succeeds_109 : decode cX6_succeeds 109 = .ok (.ireturn, 1) := by decide +kernel
theorem dX6_succeeds_110 : decode cX6_succeeds 110 = .ok (.iload 4, 2) := by decide +kernel
theorem dX6_succeeds_112 : decode cX6_succeeds 112 = .ok (.ifCond .ne 19, 3) := by decide +kernel
theorem dX6_succeeds_115 : decode cX6_succeeds 115 = .ok (.aload_n 0, 1) := by decide +kernel
theorem dX6_succeeds_116 : decode cX6_succeeds 116 = .ok (.bipush 103, 2) := by decide +kernel
theorem dX6_succeeds_118 : decode cX6_succeeds 118 = .ok (.iload 5, 2) := by decide +kernel
theorem dX6_succeeds_120 : decode cX6_succeeds 120 = .ok (.iconst 0, 1) := by decide +kernel
theorem dX6_succeeds_121 : decode cX6_succeeds 121 = .ok (.invokevirtual 106, 3) := by decide +kernel
theorem dX6_succeeds_124 : decode cX6_succeeds 124 = .ok (.ifCond .eq 7, 3) := by decide +kernel
theorem dX6_succeeds_127 : decode cX6_succeeds 127 = .ok (.iconst 1, 1) := by decide +kernel
theorem dX6_succeeds_128 : decode cX6_succeeds 128 = .ok (.goto 4, 3) := by decide +kernel
theorem dX6_succeeds_131 : decode cX6_succeeds 131 = .ok (.iconst 0, 1) := by decide +kernel
theorem dX6_succeeds_132 : decode cX6_succeeds 132 = .ok (.ireturn, 1) := by decide +kernel
theorem dX6_succeeds_133 : decode cX6_succeeds 133 = .ok (.aload_n 0, 1) := by decide +kernel
theorem dX6_succeeds_134 : decode cX6_succeeds 134 = .ok (.bipush 120, 2) := by decide +kernel
theorem dX6_succeeds_136 : decode cX6_succeeds 136 = .ok (.iload 4, 2) := by decide +kernel
theorem dX6_succeeds_138 : decode cX6_succeeds 138 = .ok (.iload 5, 2) := by decide +kernel
theorem dX6_succeeds_140 : decode cX6_succeeds 140 = .ok (.invokevirtual 106, 3) := by decide +kernel
theorem dX6_succeeds_143 : decode cX6_succeeds 143 = .ok (.ireturn, 1) := by decide +kernel
theorem dX6_succeeds_144 : decode cX6_succeeds 144 = .ok (.iload 4, 2) := by decide +kernel
theorem dX6_succeeds_146 : decode cX6_succeeds 146 = .ok (.ifCond .ne 19, 3) := by decide +kernel
theorem dX6_succeeds_149 : decode cX6_succeeds 149 = .ok (.aload_n 0, 1) := by decide +kernel
theorem dX6_succeeds_150 : decode cX6_succeeds 150 = .ok (.bipush 106, 2) := by decide +kernel
theorem dX6_succeeds_152 : decode cX6_succeeds 152 = .ok (.iload 5, 2) := by decide +kernel
theorem dX6_succeeds_154 : decode cX6_succeeds 154 = .ok (.iconst 0, 1) := by decide +kernel
theorem dX6_succeeds_155 : decode cX6_succeeds 155 = .ok (.invokevirtual 106, 3) := by decide +kernel
theorem dX6_succeeds_158 : decode cX6_succeeds 158 = .ok (.ifCond .eq 7, 3) := by decide +kernel
theorem dX6_succeeds_161 : decode cX6_succeeds 161 = .ok (.iconst 1, 1) := by decide +kernel
theorem dX6_succeeds_162 : decode cX6_succeeds 162 = .ok (.goto 4, 3) := by decide +kernel
theorem dX6_succeeds_165 : decode cX6_succeeds 165 = .ok (.iconst 0, 1) := by decide +kernel
theorem dX6_succeeds_166 : decode cX6_succeeds 166 = .ok (.ireturn, 1) := by decide +kernel
theorem dX6_succeeds_167 : decode cX6_succeeds 167 = .ok (.iload 5, 2) := by decide +kernel
theorem dX6_succeeds_169 : decode cX6_succeeds 169 = .ok (.ifCond .ne 16, 3) := by decide +kernel
theorem dX6_succeeds_172 : decode cX6_succeeds 172 = .ok (.aload_n 0, 1) := by decide +kernel
theorem dX6_succeeds_173 : decode cX6_succeeds 173 = .ok (.iload_n 2, 1) := by decide +kernel
theorem dX6_succeeds_174 : decode cX6_succeeds 174 = .ok (.iload_n 3, 1) := by decide +kernel
theorem dX6_succeeds_175 : decode cX6_succeeds 175 = .ok (.invokevirtual 158, 3) := by decide +kernel
theorem dX6_succeeds_178 : decode cX6_succeeds 178 = .ok (.ifCond .ne 7, 3) := by decide +kernel
theorem dX6_succeeds_181 : decode cX6_succeeds 181 = .ok (.iconst 1, 1) := by decide +kernel
theorem dX6_succeeds_182 : decode cX6_succeeds 182 = .ok (.goto 4, 3) := by decide +kernel
theorem dX6_succeeds_185 : decode cX6_succeeds 185 = .ok (.iconst 0, 1) := by decide +kernel
theorem dX6_succeeds_186 : decode cX6_succeeds 186 = .ok (.istore 6, 2) := by decide +kernel
theorem dX6_succeeds_188 : decode cX6_succeeds 188 = .ok (.iload 6, 2) := by decide +kernel
theorem dX6_succeeds_190 : decode cX6_succeeds 190 = .ok (.ifCond .eq 12, 3) := by decide +kernel
theorem dX6_succeeds_193 : decode cX6_succeeds 193 = .ok (.aload_n 0, 1) := by decide +kernel
theorem dX6_succeeds_194 : decode cX6_succeeds 194 = .ok (.iload_n 2, 1) := by decide +kernel
theorem dX6_succeeds_195 : decode cX6_succeeds 195 = .ok (.iload_n 3, 1) := by decide +kernel
theorem dX6_succeeds_196 : decode cX6_succeeds 196 = .ok (.invokevirtual 161, 3) := by decide +kernel
theorem dX6_succeeds_199 : decode cX6_succeeds 199 = .ok (.goto 4, 3) := by decide +kernel
theorem dX6_succeeds_202 : decode cX6_succeeds 202 = .ok (.iconst 0, 1) := by decide +kernel
theorem dX6_succeeds_203 : decode cX6_succeeds 203 = .ok (.istore 7, 2) := by decide +kernel
theorem dX6_succeeds_205 : decode cX6_succeeds 205 = .ok (.iload 6, 2) := by decide +kernel
theorem dX6_succeeds_207 : decode cX6_succeeds 207 = .ok (.ireturn, 1) := by decide +kernel
theorem dX6_succeeds_208 : decode cX6_succeeds 208 = .ok (.iload 4, 2) := by decide +kernel
theorem dX6_succeeds_210 : decode cX6_succeeds 210 = .ok (.ifCond .ne 30, 3) := by decide +kernel
theorem dX6_succeeds_213 : decode cX6_succeeds 213 = .ok (.iload 5, 2) := by decide +kernel
theorem dX6_succeeds_215 : decode cX6_succeeds 215 = .ok (.iconst 1, 1) := by decide +kernel
theorem dX6_succeeds_216 : decode cX6_succeeds 216 = .ok (.bipush 60, 2) := by decide +kernel
theorem dX6_succeeds_218 : decode cX6_succeeds 218 = .ok (.invokestatic 47, 3) := by decide +kernel
theorem dX6_succeeds_221 : decode cX6_succeeds 221 = .ok (.ifCond .eq 19, 3) := by decide +kernel
theorem dX6_succeeds_224 : decode cX6_succeeds 224 = .ok (.aload_n 0, 1) := by decide +kernel
theorem dX6_succeeds_225 : decode cX6_succeeds 225 = .ok (.bipush 116, 2) := by decide +kernel
theorem dX6_succeeds_227 : decode cX6_succeeds 227 = .ok (.iload 5, 2) := by decide +kernel
theorem dX6_succeeds_229 : decode cX6_succeeds 229 = .ok (.iconst 0, 1) := by decide +kernel
theorem dX6_succeeds_230 : decode cX6_succeeds 230 = .ok (.invokevirtual 106, 3) := by decide +kernel
theorem dX6_succeeds_233 : decode cX6_succeeds 233 = .ok (.ifCond .eq 7, 3) := by decide +kernel
theorem dX6_succeeds_236 : decode cX6_succeeds 236 = .ok (.iconst 1, 1) := by decide +kernel
theorem dX6_succeeds_237 : decode cX6_succeeds 237 = .ok (.goto 4, 3) := by decide +kernel
theorem dX6_succeeds_240 : decode cX6_succeeds 240 = .ok (.iconst 0, 1) := by decide +kernel
theorem dX6_succeeds_241 : decode cX6_succeeds 241 = .ok (.ireturn, 1) := by decide +kernel
theorem dX6_succeeds_242 : decode cX6_succeeds 242 = .ok (.iload 4, 2) := by decide +kernel
theorem dX6_succeeds_244 : decode cX6_succeeds 244 = .ok (.ifCond .ne 31, 3) := by decide +kernel
theorem dX6_succeeds_247 : decode cX6_succeeds 247 = .ok (.aload_n 0, 1) := by decide +kernel
theorem dX6_succeeds_248 : decode cX6_succeeds 248 = .ok (.iload 5, 2) := by decide +kernel
theorem dX6_succeeds_250 : decode cX6_succeeds 250 = .ok (.invokevirtual 59, 3) := by decide +kernel
theorem dX6_succeeds_253 : decode cX6_succeeds 253 = .ok (.ifCond .eq 22, 3) := by decide +kernel
theorem dX6_succeeds_256 : decode cX6_succeeds 256 = .ok (.aload_n 0, 1) := by decide +kernel
theorem dX6_succeeds_257 : decode cX6_succeeds 257 = .ok (.getfield 7, 3) := by decide +kernel
theorem dX6_succeeds_260 : decode cX6_succeeds 260 = .ok (.iload 5, 2) := by decide +kernel
theorem dX6_succeeds_262 : decode cX6_succeeds 262 = .ok (.iconst 5, 1) := by decide +kernel
theorem dX6_succeeds_263 : decode cX6_succeeds 263 = .ok (.invokestatic 51, 3) := by decide +kernel
theorem dX6_succeeds_266 : decode cX6_succeeds 266 = .ok (.iaload, 1) := by decide +kernel
theorem dX6_succeeds_267 : decode cX6_succeeds 267 = .ok (.iconst 1, 1) := by decide +kernel
theorem dX6_succeeds_268 : decode cX6_succeeds 268 = .ok (.if_icmp .ne 7, 3) := by decide +kernel
theorem dX6_succeeds_271 : decode cX6_succeeds 271 = .ok (.iconst 1, 1) := by decide +kernel
theorem dX6_succeeds_272 : decode cX6_succeeds 272 = .ok (.goto 4, 3) := by decide +kernel
theorem dX6_succeeds_275 : decode cX6_succeeds 275 = .ok (.iconst 0, 1) := by decide +kernel
theorem dX6_succeeds_276 : decode cX6_succeeds 276 = .ok (.ireturn, 1) := by decide +kernel
theorem dX6_succeeds_277 : decode cX6_succeeds 277 = .ok (.aload_n 0, 1) := by decide +kernel
theorem dX6_succeeds_278 : decode cX6_succeeds 278 = .ok (.iload 4, 2) := by decide +kernel
theorem dX6_succeeds_280 : decode cX6_succeeds 280 = .ok (.invokevirtual 59, 3) := by decide +kernel
theorem dX6_succeeds_283 : decode cX6_succeeds 283 = .ok (.ifCond .eq 27, 3) := by decide +kernel
theorem dX6_succeeds_286 : decode cX6_succeeds 286 = .ok (.aload_n 0, 1) := by decide +kernel
theorem dX6_succeeds_287 : decode cX6_succeeds 287 = .ok (.iload 4, 2) := by decide +kernel
theorem dX6_succeeds_289 : decode cX6_succeeds 289 = .ok (.invokevirtual 62, 3) := by decide +kernel
theorem dX6_succeeds_292 : decode cX6_succeeds 292 = .ok (.ifCond .eq 18, 3) := by decide +kernel
theorem dX6_succeeds_295 : decode cX6_succeeds 295 = .ok (.aload_n 0, 1) := by decide +kernel
