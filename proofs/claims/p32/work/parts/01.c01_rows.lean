theorem dX1_trade_120 : decode cX1_trade 120 = .ok (.putfield 47, 3) := by decide +kernel
theorem dX1_trade_123 : decode cX1_trade 123 = .ok (.iload 4, 2) := by decide +kernel
theorem dX1_trade_125 : decode cX1_trade 125 = .ok (.ireturn, 1) := by decide +kernel
set_option maxRecDepth 20000 in
theorem ggX1_mayPass_X1_stands : GoodIn wsX1_mayPass wsX1_stands := goodIn_r _ [8, 9, 10, 11, 12, 7, 13, 14, 15, 16, 17, 18, 19, 20, 39, 40, 41, 42, 43, 44, 45, 46, 47, 48, 49, 50, 51, 52, 53, 54, 55, 56, 57, 58] (by decide +kernel) (by decide +kernel)
set_option maxRecDepth 20000 in
theorem gX1_mayPass_X1_stands : GoodIn wsX1_mayPass (wsV RX1 163 RX1 yX1_stands wsX1_stands) := goodIn_app (goodIn_of _ (by decide +kernel)) ggX1_mayPass_X1_stands
set_option maxRecDepth 20000 in
theorem ggX1_mayPass_X1_personOf : GoodIn wsX1_mayPass wsX1_personOf := goodIn_r _ [18, 19, 20, 48, 49, 50, 51, 52, 53, 54, 55, 56, 57, 58] (by decide +kernel) (by decide +kernel)
set_option maxRecDepth 20000 in
theorem gX1_mayPass_X1_personOf : GoodIn wsX1_mayPass (wsV RX1 73 RX1 yX1_personOf wsX1_personOf) := goodIn_app (goodIn_of _ (by decide +kernel)) ggX1_mayPass_X1_personOf
set_option maxRecDepth 20000 in
theorem ggX1_mayPass_X1_placeOf : GoodIn wsX1_mayPass wsX1_placeOf := goodIn_r _ [24, 25, 15, 16, 17, 7, 18, 19, 20, 26, 27, 28, 29, 30, 31, 32, 33, 34, 35, 36, 37, 38, 39, 40, 41, 42, 43, 44, 45, 46, 47, 48, 49, 50, 51, 52, 53, 54, 55, 56, 57, 58, 59, 60, 61, 62, 63] (by decide +kernel) (by decide +kernel)
set_option maxRecDepth 20000 in
theorem gX1_mayPass_X1_placeOf : GoodIn wsX1_mayPass (wsV RX1 128 RX1 yX1_placeOf wsX1_placeOf) := goodIn_app (goodIn_of _ (by decide +kernel)) ggX1_mayPass_X1_placeOf
theorem dX1_mayPass_0 : decode cX1_mayPass 0 = .ok (.aload_n 0, 1) := by decide +kernel
theorem dX1_mayPass_1 : decode cX1_mayPass 1 = .ok (.iload_n 1, 1) := by decide +kernel
theorem dX1_mayPass_2 : decode cX1_mayPass 2 = .ok (.invokevirtual 163, 3) := by decide +kernel
theorem dX1_mayPass_5 : decode cX1_mayPass 5 = .ok (.ifCond .eq 43, 3) := by decide +kernel
theorem dX1_mayPass_8 : decode cX1_mayPass 8 = .ok (.aload_n 0, 1) := by decide +kernel
theorem dX1_mayPass_9 : decode cX1_mayPass 9 = .ok (.iload_n 1, 1) := by decide +kernel
theorem dX1_mayPass_10 : decode cX1_mayPass 10 = .ok (.invokevirtual 73, 3) := by decide +kernel
theorem dX1_mayPass_13 : decode cX1_mayPass 13 = .ok (.getfield 125, 3) := by decide +kernel
theorem dX1_mayPass_16 : decode cX1_mayPass 16 = .ok (.ifCond .eq 32, 3) := by decide +kernel
theorem dX1_mayPass_19 : decode cX1_mayPass 19 = .ok (.aload_n 0, 1) := by decide +kernel
theorem dX1_mayPass_20 : decode cX1_mayPass 20 = .ok (.iload_n 1, 1) := by decide +kernel
theorem dX1_mayPass_21 : decode cX1_mayPass 21 = .ok (.invokevirtual 128, 3) := by decide +kernel
theorem dX1_mayPass_24 : decode cX1_mayPass 24 = .ok (.ifCond .le 24, 3) := by decide +kernel
theorem dX1_mayPass_27 : decode cX1_mayPass 27 = .ok (.aload_n 0, 1) := by decide +kernel
theorem dX1_mayPass_28 : decode cX1_mayPass 28 = .ok (.getfield 44, 3) := by decide +kernel
theorem dX1_mayPass_31 : decode cX1_mayPass 31 = .ok (.aload_n 0, 1) := by decide +kernel
theorem dX1_mayPass_32 : decode cX1_mayPass 32 = .ok (.iload_n 1, 1) := by decide +kernel
theorem dX1_mayPass_33 : decode cX1_mayPass 33 = .ok (.invokevirtual 73, 3) := by decide +kernel
theorem dX1_mayPass_36 : decode cX1_mayPass 36 = .ok (.getfield 182, 3) := by decide +kernel
theorem dX1_mayPass_39 : decode cX1_mayPass 39 = .ok (.isub, 1) := by decide +kernel
theorem dX1_mayPass_40 : decode cX1_mayPass 40 = .ok (.iconst 5, 1) := by decide +kernel
theorem dX1_mayPass_41 : decode cX1_mayPass 41 = .ok (.if_icmp .lt 7, 3) := by decide +kernel
theorem dX1_mayPass_44 : decode cX1_mayPass 44 = .ok (.iconst 1, 1) := by decide +kernel
theorem dX1_mayPass_45 : decode cX1_mayPass 45 = .ok (.goto 4, 3) := by decide +kernel
theorem dX1_mayPass_48 : decode cX1_mayPass 48 = .ok (.iconst 0, 1) := by decide +kernel
theorem dX1_mayPass_49 : decode cX1_mayPass 49 = .ok (.ireturn, 1) := by decide +kernel
set_option maxRecDepth 20000 in
theorem ggX1_pass_X1_mayPass : GoodIn wsX1_pass wsX1_mayPass := goodIn_r _ [15, 16, 8, 9, 17, 18, 19, 14, 20, 21, 22, 23, 24, 25, 26, 27, 28, 29, 30, 31, 32, 33, 34, 35, 36, 1, 37, 38, 39, 40, 41, 42, 43, 44, 45, 46, 47, 48, 49, 73, 74, 75, 76, 77, 78, 79, 80, 81, 82, 83, 84, 85, 86, 87, 88, 89, 90, 91, 92, 93, 94, 95, 96, 97] (by decide +kernel) (by decide +kernel)
set_option maxRecDepth 20000 in
theorem gX1_pass_X1_mayPass : GoodIn wsX1_pass (wsV RX1 185 RX1 yX1_mayPass wsX1_mayPass) := goodIn_app (goodIn_of _ (by decide +kernel)) ggX1_pass_X1_mayPass
set_option maxRecDepth 20000 in
theorem ggX1_pass_X1_personOf : GoodIn wsX1_pass wsX1_personOf := goodIn_r _ [30, 31, 32, 82, 83, 84, 85, 86, 87, 88, 89, 90, 91, 92] (by decide +kernel) (by decide +kernel)
set_option maxRecDepth 20000 in
theorem gX1_pass_X1_personOf : GoodIn wsX1_pass (wsV RX1 73 RX1 yX1_personOf wsX1_personOf) := goodIn_app (goodIn_of _ (by decide +kernel)) ggX1_pass_X1_personOf
set_option maxRecDepth 20000 in
theorem ggX1_pass_X1_lineOf : GoodIn wsX1_pass wsX1_lineOf := goodIn_r _ [40, 41, 42, 82, 83, 84, 85, 86, 87, 88, 89, 90, 91, 92] (by decide +kernel) (by decide +kernel)
set_option maxRecDepth 20000 in
theorem gX1_pass_X1_lineOf : GoodIn wsX1_pass (wsV RX1 65 RX1 yX1_lineOf wsX1_lineOf) := goodIn_app (goodIn_of _ (by decide +kernel)) ggX1_pass_X1_lineOf
set_option maxRecDepth 20000 in
theorem ggX1_pass_X1_placeOf : GoodIn wsX1_pass wsX1_placeOf := goodIn_r _ [36, 1, 27, 28, 29, 14, 30, 31, 32, 37, 38, 39, 40, 41, 42, 43, 44, 45, 46, 47, 48, 49, 73, 74, 75, 76, 77, 78, 79, 80, 81, 82, 83, 84, 85, 86, 87, 88, 89, 90, 91, 92, 93, 94, 95, 96, 97] (by decide +kernel) (by decide +kernel)
set_option maxRecDepth 20000 in
theorem gX1_pass_X1_placeOf : GoodIn wsX1_pass (wsV RX1 128 RX1 yX1_placeOf wsX1_placeOf) := goodIn_app (goodIn_of _ (by decide +kernel)) ggX1_pass_X1_placeOf
set_option maxRecDepth 20000 in
theorem ggX1_pass_X3_who : GoodIn wsX1_pass wsX3_who := goodIn_r _ [53, 49, 54, 55, 56, 46, 57, 48, 93, 94, 95, 96, 97] (by decide +kernel) (by decide +kernel)
set_option maxRecDepth 20000 in
theorem gX1_pass_X3_who : GoodIn wsX1_pass (wsV RX1 119 RX3 yX3_who wsX3_who) := goodIn_app (goodIn_of _ (by decide +kernel)) ggX1_pass_X3_who
set_option maxRecDepth 20000 in
theorem ggX1_pass_X1_payForPassing : GoodIn wsX1_pass wsX1_payForPassing := goodIn_r _ [61, 7, 16, 2, 62, 63, 64, 65, 14, 66, 67, 68, 73, 74, 75, 76, 77, 78, 79, 80, 81, 82, 83, 84, 85, 86, 87, 88, 89, 90, 91, 92] (by decide +kernel) (by decide +kernel)
set_option maxRecDepth 20000 in
theorem gX1_pass_X1_payForPassing : GoodIn wsX1_pass (wsV RX1 194 RX1 yX1_payForPassing wsX1_payForPassing) := goodIn_app (goodIn_of _ (by decide +kernel)) ggX1_pass_X1_payForPassing
set_option maxRecDepth 20000 in
theorem ggX1_pass_X3_swap : GoodIn wsX1_pass wsX3_swap := goodIn_r _ [72, 49, 54, 55, 56, 46, 57, 48, 93, 94, 95, 96, 97] (by decide +kernel) (by decide +kernel)
set_option maxRecDepth 20000 in
theorem gX1_pass_X3_swap : GoodIn wsX1_pass (wsV RX1 178 RX3 yX3_swap wsX3_swap) := goodIn_app (goodIn_of _ (by decide +kernel)) ggX1_pass_X3_swap
theorem dX1_pass_0 : decode cX1_pass 0 = .ok (.aload_n 0, 1) := by decide +kernel
theorem dX1_pass_1 : decode cX1_pass 1 = .ok (.iload_n 1, 1) := by decide +kernel
theorem dX1_pass_2 : decode cX1_pass 2 = .ok (.invokevirtual 185, 3) := by decide +kernel
theorem dX1_pass_5 : decode cX1_pass 5 = .ok (.ifCond .ne 5, 3) := by decide +kernel
theorem dX1_pass_8 : decode cX1_pass 8 = .ok (.iconst (-1), 1) := by decide +kernel
theorem dX1_pass_9 : decode cX1_pass 9 = .ok (.ireturn, 1) := by decide +kernel
theorem dX1_pass_10 : decode cX1_pass 10 = .ok (.aload_n 0, 1) := by decide +kernel
theorem dX1_pass_11 : decode cX1_pass 11 = .ok (.iload_n 1, 1) := by decide +kernel
theorem dX1_pass_12 : decode cX1_pass 12 = .ok (.invokevirtual 73, 3) := by decide +kernel
theorem dX1_pass_15 : decode cX1_pass 15 = .ok (.astore_n 2, 1) := by decide +kernel
theorem dX1_pass_16 : decode cX1_pass 16 = .ok (.aload_n 0, 1) := by decide +kernel
theorem dX1_pass_17 : decode cX1_pass 17 = .ok (.aload_n 2, 1) := by decide +kernel
theorem dX1_pass_18 : decode cX1_pass 18 = .ok (.getfield 87, 3) := by decide +kernel
theorem dX1_pass_21 : decode cX1_pass 21 = .ok (.invokevirtual 65, 3) := by decide +kernel
theorem dX1_pass_24 : decode cX1_pass 24 = .ok (.astore_n 3, 1) := by decide +kernel
theorem dX1_pass_25 : decode cX1_pass 25 = .ok (.aload_n 0, 1) := by decide +kernel
theorem dX1_pass_26 : decode cX1_pass 26 = .ok (.iload_n 1, 1) := by decide +kernel
theorem dX1_pass_27 : decode cX1_pass 27 = .ok (.invokevirtual 128, 3) := by decide +kernel
theorem dX1_pass_30 : decode cX1_pass 30 = .ok (.istore 4, 2) := by decide +kernel
theorem dX1_pass_32 : decode cX1_pass 32 = .ok (.aload_n 0, 1) := by decide +kernel
theorem dX1_pass_33 : decode cX1_pass 33 = .ok (.getfield 9, 3) := by decide +kernel
theorem dX1_pass_36 : decode cX1_pass 36 = .ok (.iconst 3, 1) := by decide +kernel
theorem dX1_pass_37 : decode cX1_pass 37 = .ok (.iaload, 1) := by decide +kernel
theorem dX1_pass_38 : decode cX1_pass 38 = .ok (.iload 4, 2) := by decide +kernel
theorem dX1_pass_40 : decode cX1_pass 40 = .ok (.invokestatic 188, 3) := by decide +kernel
theorem dX1_pass_43 : decode cX1_pass 43 = .ok (.istore 5, 2) := by decide +kernel
theorem dX1_pass_45 : decode cX1_pass 45 = .ok (.iload 4, 2) := by decide +kernel
theorem dX1_pass_47 : decode cX1_pass 47 = .ok (.istore 6, 2) := by decide +kernel
theorem dX1_pass_49 : decode cX1_pass 49 = .ok (.iload 6, 2) := by decide +kernel
theorem dX1_pass_51 : decode cX1_pass 51 = .ok (.iload 4, 2) := by decide +kernel
theorem dX1_pass_53 : decode cX1_pass 53 = .ok (.iload 5, 2) := by decide +kernel
theorem dX1_pass_55 : decode cX1_pass 55 = .ok (.isub, 1) := by decide +kernel
theorem dX1_pass_56 : decode cX1_pass 56 = .ok (.if_icmp .le 36, 3) := by decide +kernel
theorem dX1_pass_59 : decode cX1_pass 59 = .ok (.aload_n 0, 1) := by decide +kernel
theorem dX1_pass_60 : decode cX1_pass 60 = .ok (.aload_n 2, 1) := by decide +kernel
theorem dX1_pass_61 : decode cX1_pass 61 = .ok (.aload_n 0, 1) := by decide +kernel
theorem dX1_pass_62 : decode cX1_pass 62 = .ok (.aload_n 3, 1) := by decide +kernel
theorem dX1_pass_63 : decode cX1_pass 63 = .ok (.iload 6, 2) := by decide +kernel
theorem dX1_pass_65 : decode cX1_pass 65 = .ok (.iconst 1, 1) := by decide +kernel
theorem dX1_pass_66 : decode cX1_pass 66 = .ok (.isub, 1) := by decide +kernel
theorem dX1_pass_67 : decode cX1_pass 67 = .ok (.invokevirtual 119, 3) := by decide +kernel
theorem dX1_pass_70 : decode cX1_pass 70 = .ok (.invokevirtual 73, 3) := by decide +kernel
theorem dX1_pass_73 : decode cX1_pass 73 = .ok (.invokevirtual 194, 3) := by decide +kernel
theorem dX1_pass_76 : decode cX1_pass 76 = .ok (.aload_n 3, 1) := by decide +kernel
theorem dX1_pass_77 : decode cX1_pass 77 = .ok (.iload 6, 2) := by decide +kernel
theorem dX1_pass_79 : decode cX1_pass 79 = .ok (.iconst 1, 1) := by decide +kernel
theorem dX1_pass_80 : decode cX1_pass 80 = .ok (.isub, 1) := by decide +kernel
theorem dX1_pass_81 : decode cX1_pass 81 = .ok (.iload 6, 2) := by decide +kernel
theorem dX1_pass_83 : decode cX1_pass 83 = .ok (.invokevirtual 178, 3) := by decide +kernel
theorem dX1_pass_86 : decode cX1_pass 86 = .ok (.iinc 6 (-1), 3) := by decide +kernel
theorem dX1_pass_89 : decode cX1_pass 89 = .ok (.goto (-40), 3) := by decide +kernel
theorem dX1_pass_92 : decode cX1_pass 92 = .ok (.aload_n 2, 1) := by decide +kernel
theorem dX1_pass_93 : decode cX1_pass 93 = .ok (.dup, 1) := by decide +kernel
theorem dX1_pass_94 : decode cX1_pass 94 = .ok (.getfield 135, 3) := by decide +kernel
theorem dX1_pass_97 : decode cX1_pass 97 = .ok (.iload 5, 2) := by decide +kernel
theorem dX1_pass_99 : decode cX1_pass 99 = .ok (.isub, 1) := by decide +kernel
theorem dX1_pass_100 : decode cX1_pass 100 = .ok (.putfield 135, 3) := by decide +kernel
theorem dX1_pass_103 : decode cX1_pass 103 = .ok (.aload_n 2, 1) := by decide +kernel
theorem dX1_pass_104 : decode cX1_pass 104 = .ok (.aload_n 0, 1) := by decide +kernel
theorem dX1_pass_105 : decode cX1_pass 105 = .ok (.getfield 44, 3) := by decide +kernel
theorem dX1_pass_108 : decode cX1_pass 108 = .ok (.putfield 182, 3) := by decide +kernel
theorem dX1_pass_111 : decode cX1_pass 111 = .ok (.aload_n 0, 1) := by decide +kernel
theorem dX1_pass_112 : decode cX1_pass 112 = .ok (.dup, 1) := by decide +kernel
theorem dX1_pass_113 : decode cX1_pass 113 = .ok (.getfield 50, 3) := by decide +kernel
theorem dX1_pass_116 : decode cX1_pass 116 = .ok (.iconst 1, 1) := by decide +kernel
theorem dX1_pass_117 : decode cX1_pass 117 = .ok (.iadd, 1) := by decide +kernel
theorem dX1_pass_118 : decode cX1_pass 118 = .ok (.putfield 50, 3) := by decide +kernel
theorem dX1_pass_121 : decode cX1_pass 121 = .ok (.iload 5, 2) := by decide +kernel
theorem dX1_pass_123 : decode cX1_pass 123 = .ok (.ireturn, 1) := by decide +kernel
set_option maxRecDepth 20000 in
theorem ggX1_payForPassing_X1_payByHouse : GoodIn wsX1_payForPassing wsX1_payByHouse := goodIn_r _ [9, 4, 10, 11, 12, 13, 14, 15, 16, 17, 18, 19, 20, 21, 22, 23, 24, 25, 26, 27, 28, 29, 30, 31] (by decide +kernel) (by decide +kernel)
set_option maxRecDepth 20000 in
theorem gX1_payForPassing_X1_payByHouse : GoodIn wsX1_payForPassing (wsV RX1 198 RX1 yX1_payByHouse wsX1_payByHouse) := goodIn_app (goodIn_of _ (by decide +kernel)) ggX1_payForPassing_X1_payByHouse
theorem dX1_payForPassing_0 : decode cX1_payForPassing 0 = .ok (.aload_n 2, 1) := by decide +kernel
theorem dX1_payForPassing_1 : decode cX1_payForPassing 1 = .ok (.dup, 1) := by decide +kernel
theorem dX1_payForPassing_2 : decode cX1_payForPassing 2 = .ok (.getfield 135, 3) := by decide +kernel
theorem dX1_payForPassing_5 : decode cX1_payForPassing 5 = .ok (.iconst 1, 1) := by decide +kernel
theorem dX1_payForPassing_6 : decode cX1_payForPassing 6 = .ok (.iadd, 1) := by decide +kernel
theorem dX1_payForPassing_7 : decode cX1_payForPassing 7 = .ok (.putfield 135, 3) := by decide +kernel
theorem dX1_payForPassing_10 : decode cX1_payForPassing 10 = .ok (.aload_n 1, 1) := by decide +kernel
theorem dX1_payForPassing_11 : decode cX1_payForPassing 11 = .ok (.getfield 125, 3) := by decide +kernel
theorem dX1_payForPassing_14 : decode cX1_payForPassing 14 = .ok (.iconst 1, 1) := by decide +kernel
theorem dX1_payForPassing_15 : decode cX1_payForPassing 15 = .ok (.if_icmp .ne 17, 3) := by decide +kernel
theorem dX1_payForPassing_18 : decode cX1_payForPassing 18 = .ok (.aload_n 0, 1) := by decide +kernel
theorem dX1_payForPassing_19 : decode cX1_payForPassing 19 = .ok (.aload_n 2, 1) := by decide +kernel
theorem dX1_payForPassing_20 : decode cX1_payForPassing 20 = .ok (.aload_n 0, 1) := by decide +kernel
theorem dX1_payForPassing_21 : decode cX1_payForPassing 21 = .ok (.getfield 9, 3) := by decide +kernel
theorem dX1_payForPassing_24 : decode cX1_payForPassing 24 = .ok (.iconst 2, 1) := by decide +kernel
theorem dX1_payForPassing_25 : decode cX1_payForPassing 25 = .ok (.iaload, 1) := by decide +kernel
theorem dX1_payForPassing_26 : decode cX1_payForPassing 26 = .ok (.invokevirtual 198, 3) := by decide +kernel
theorem dX1_payForPassing_29 : decode cX1_payForPassing 29 = .ok (.goto 33, 3) := by decide +kernel
theorem dX1_payForPassing_32 : decode cX1_payForPassing 32 = .ok (.aload_n 1, 1) := by decide +kernel
theorem dX1_payForPassing_33 : decode cX1_payForPassing 33 = .ok (.dup, 1) := by decide +kernel
theorem dX1_payForPassing_34 : decode cX1_payForPassing 34 = .ok (.getfield 100, 3) := by decide +kernel
theorem dX1_payForPassing_37 : decode cX1_payForPassing 37 = .ok (.aload_n 0, 1) := by decide +kernel
theorem dX1_payForPassing_38 : decode cX1_payForPassing 38 = .ok (.getfield 9, 3) := by decide +kernel
theorem dX1_payForPassing_41 : decode cX1_payForPassing 41 = .ok (.iconst 2, 1) := by decide +kernel
theorem dX1_payForPassing_42 : decode cX1_payForPassing 42 = .ok (.iaload, 1) := by decide +kernel
theorem dX1_payForPassing_43 : decode cX1_payForPassing 43 = .ok (.isub, 1) := by decide +kernel
theorem dX1_payForPassing_44 : decode cX1_payForPassing 44 = .ok (.putfield 100, 3) := by decide +kernel
theorem dX1_payForPassing_47 : decode cX1_payForPassing 47 = .ok (.aload_n 2, 1) := by decide +kernel
theorem dX1_payForPassing_48 : decode cX1_payForPassing 48 = .ok (.dup, 1) := by decide +kernel
theorem dX1_payForPassing_49 : decode cX1_payForPassing 49 = .ok (.getfield 100, 3) := by decide +kernel
theorem dX1_payForPassing_52 : decode cX1_payForPassing 52 = .ok (.aload_n 0, 1) := by decide +kernel
theorem dX1_payForPassing_53 : decode cX1_payForPassing 53 = .ok (.getfield 9, 3) := by decide +kernel
theorem dX1_payForPassing_56 : decode cX1_payForPassing 56 = .ok (.iconst 2, 1) := by decide +kernel
theorem dX1_payForPassing_57 : decode cX1_payForPassing 57 = .ok (.iaload, 1) := by decide +kernel
theorem dX1_payForPassing_58 : decode cX1_payForPassing 58 = .ok (.iadd, 1) := by decide +kernel
theorem dX1_payForPassing_59 : decode cX1_payForPassing 59 = .ok (.putfield 100, 3) := by decide +kernel
theorem dX1_payForPassing_62 : decode cX1_payForPassing 62 = .ok (.return_, 1) := by decide +kernel
theorem dX1_payByHouse_0 : decode cX1_payByHouse 0 = .ok (.aload_n 1, 1) := by decide +kernel
theorem dX1_payByHouse_1 : decode cX1_payByHouse 1 = .ok (.dup, 1) := by decide +kernel
theorem dX1_payByHouse_2 : decode cX1_payByHouse 2 = .ok (.getfield 100, 3) := by decide +kernel
theorem dX1_payByHouse_5 : decode cX1_payByHouse 5 = .ok (.iload_n 2, 1) := by decide +kernel
theorem dX1_payByHouse_6 : decode cX1_payByHouse 6 = .ok (.iadd, 1) := by decide +kernel
theorem dX1_payByHouse_7 : decode cX1_payByHouse 7 = .ok (.putfield 100, 3) := by decide +kernel
theorem dX1_payByHouse_10 : decode cX1_payByHouse 10 = .ok (.aload_n 1, 1) := by decide +kernel
theorem dX1_payByHouse_11 : decode cX1_payByHouse 11 = .ok (.dup, 1) := by decide +kernel
theorem dX1_payByHouse_12 : decode cX1_payByHouse 12 = .ok (.getfield 129, 3) := by decide +kernel
theorem dX1_payByHouse_15 : decode cX1_payByHouse 15 = .ok (.iload_n 2, 1) := by decide +kernel
theorem dX1_payByHouse_16 : decode cX1_payByHouse 16 = .ok (.iadd, 1) := by decide +kernel
theorem dX1_payByHouse_17 : decode cX1_payByHouse 17 = .ok (.putfield 129, 3) := by decide +kernel
theorem dX1_payByHouse_20 : decode cX1_payByHouse 20 = .ok (.aload_n 0, 1) := by decide +kernel
theorem dX1_payByHouse_21 : decode cX1_payByHouse 21 = .ok (.dup, 1) := by decide +kernel
theorem dX1_payByHouse_22 : decode cX1_payByHouse 22 = .ok (.getfield 53, 3) := by decide +kernel
theorem dX1_payByHouse_25 : decode cX1_payByHouse 25 = .ok (.iload_n 2, 1) := by decide +kernel
theorem dX1_payByHouse_26 : decode cX1_payByHouse 26 = .ok (.iadd, 1) := by decide +kernel
theorem dX1_payByHouse_27 : decode cX1_payByHouse 27 = .ok (.putfield 53, 3) := by decide +kernel
theorem dX1_payByHouse_30 : decode cX1_payByHouse 30 = .ok (.return_, 1) := by decide +kernel
set_option maxRecDepth 20000 in
theorem ggX1_mayUnite_X1_isLine : GoodIn wsX1_mayUnite wsX1_isLine := goodIn_r _ [6, 7, 19, 20, 21, 22, 23, 24, 25, 26, 27, 28, 29] (by decide +kernel) (by decide +kernel)
set_option maxRecDepth 20000 in
theorem gX1_mayUnite_X1_isLine : GoodIn wsX1_mayUnite (wsV RX1 146 RX1 yX1_isLine wsX1_isLine) := goodIn_app (goodIn_of _ (by decide +kernel)) ggX1_mayUnite_X1_isLine
set_option maxRecDepth 20000 in
theorem ggX1_mayUnite_X1_lineOf : GoodIn wsX1_mayUnite wsX1_lineOf := goodIn_r _ [11, 12, 13, 19, 20, 21, 22, 23, 24, 25, 26, 27, 28, 29] (by decide +kernel) (by decide +kernel)
set_option maxRecDepth 20000 in
theorem gX1_mayUnite_X1_lineOf : GoodIn wsX1_mayUnite (wsV RX1 65 RX1 yX1_lineOf wsX1_lineOf) := goodIn_app (goodIn_of _ (by decide +kernel)) ggX1_mayUnite_X1_lineOf
theorem dX1_mayUnite_0 : decode cX1_mayUnite 0 = .ok (.aload_n 0, 1) := by decide +kernel
theorem dX1_mayUnite_1 : decode cX1_mayUnite 1 = .ok (.iload_n 1, 1) := by decide +kernel
theorem dX1_mayUnite_2 : decode cX1_mayUnite 2 = .ok (.invokevirtual 146, 3) := by decide +kernel
theorem dX1_mayUnite_5 : decode cX1_mayUnite 5 = .ok (.ifCond .eq 42, 3) := by decide +kernel
theorem dX1_mayUnite_8 : decode cX1_mayUnite 8 = .ok (.aload_n 0, 1) := by decide +kernel
theorem dX1_mayUnite_9 : decode cX1_mayUnite 9 = .ok (.iload_n 2, 1) := by decide +kernel
theorem dX1_mayUnite_10 : decode cX1_mayUnite 10 = .ok (.invokevirtual 146, 3) := by decide +kernel
theorem dX1_mayUnite_13 : decode cX1_mayUnite 13 = .ok (.ifCond .eq 34, 3) := by decide +kernel
theorem dX1_mayUnite_16 : decode cX1_mayUnite 16 = .ok (.iload_n 1, 1) := by decide +kernel
theorem dX1_mayUnite_17 : decode cX1_mayUnite 17 = .ok (.iload_n 2, 1) := by decide +kernel
theorem dX1_mayUnite_18 : decode cX1_mayUnite 18 = .ok (.if_icmp .eq 29, 3) := by decide +kernel
theorem dX1_mayUnite_21 : decode cX1_mayUnite 21 = .ok (.aload_n 0, 1) := by decide +kernel
theorem dX1_mayUnite_22 : decode cX1_mayUnite 22 = .ok (.iload_n 1, 1) := by decide +kernel
theorem dX1_mayUnite_23 : decode cX1_mayUnite 23 = .ok (.invokevirtual 65, 3) := by decide +kernel
theorem dX1_mayUnite_26 : decode cX1_mayUnite 26 = .ok (.getfield 106, 3) := by decide +kernel
theorem dX1_mayUnite_29 : decode cX1_mayUnite 29 = .ok (.aload_n 0, 1) := by decide +kernel
theorem dX1_mayUnite_30 : decode cX1_mayUnite 30 = .ok (.iload_n 2, 1) := by decide +kernel
theorem dX1_mayUnite_31 : decode cX1_mayUnite 31 = .ok (.invokevirtual 65, 3) := by decide +kernel
theorem dX1_mayUnite_34 : decode cX1_mayUnite 34 = .ok (.getfield 106, 3) := by decide +kernel
theorem dX1_mayUnite_37 : decode cX1_mayUnite 37 = .ok (.iadd, 1) := by decide +kernel
theorem dX1_mayUnite_38 : decode cX1_mayUnite 38 = .ok (.bipush 12, 2) := by decide +kernel
theorem dX1_mayUnite_40 : decode cX1_mayUnite 40 = .ok (.if_icmp .gt 7, 3) := by decide +kernel
theorem dX1_mayUnite_43 : decode cX1_mayUnite 43 = .ok (.iconst 1, 1) := by decide +kernel
theorem dX1_mayUnite_44 : decode cX1_mayUnite 44 = .ok (.goto 4, 3) := by decide +kernel
theorem dX1_mayUnite_47 : decode cX1_mayUnite 47 = .ok (.iconst 0, 1) := by decide +kernel
theorem dX1_mayUnite_48 : decode cX1_mayUnite 48 = .ok (.ireturn, 1) := by decide +kernel
set_option maxRecDepth 20000 in
theorem ggX1_unite_X1_mayUnite : GoodIn wsX1_unite wsX1_mayUnite := goodIn_r _ [8, 1, 9, 10, 11, 7, 12, 13, 14, 15, 16, 17, 18, 19, 54, 55, 56, 57, 58, 68, 69, 70, 71, 72, 73, 74, 75, 76, 77, 78] (by decide +kernel) (by decide +kernel)
set_option maxRecDepth 20000 in
theorem gX1_unite_X1_mayUnite : GoodIn wsX1_unite (wsV RX1 202 RX1 yX1_mayUnite wsX1_mayUnite) := goodIn_app (goodIn_of _ (by decide +kernel)) ggX1_unite_X1_mayUnite
set_option maxRecDepth 20000 in
theorem ggX1_unite_X1_lineOf : GoodIn wsX1_unite wsX1_lineOf := goodIn_r _ [17, 18, 19, 68, 69, 70, 71, 72, 73, 74, 75, 76, 77, 78] (by decide +kernel) (by decide +kernel)
set_option maxRecDepth 20000 in
theorem gX1_unite_X1_lineOf : GoodIn wsX1_unite (wsV RX1 65 RX1 yX1_lineOf wsX1_lineOf) := goodIn_app (goodIn_of _ (by decide +kernel)) ggX1_unite_X1_lineOf
set_option maxRecDepth 20000 in
theorem ggX1_unite_X3_who : GoodIn wsX1_unite wsX3_who := goodIn_r _ [24, 25, 26, 27, 28, 23, 29, 30, 54, 55, 56, 57, 58] (by decide +kernel) (by decide +kernel)
set_option maxRecDepth 20000 in
theorem gX1_unite_X3_who : GoodIn wsX1_unite (wsV RX1 119 RX3 yX3_who wsX3_who) := goodIn_app (goodIn_of _ (by decide +kernel)) ggX1_unite_X3_who
set_option maxRecDepth 20000 in
theorem ggX1_unite_X1_personOf : GoodIn wsX1_unite wsX1_personOf := goodIn_r _ [34, 35, 36, 68, 69, 70, 71, 72, 73, 74, 75, 76, 77, 78] (by decide +kernel) (by decide +kernel)
set_option maxRecDepth 20000 in
theorem gX1_unite_X1_personOf : GoodIn wsX1_unite (wsV RX1 73 RX1 yX1_personOf wsX1_personOf) := goodIn_app (goodIn_of _ (by decide +kernel)) ggX1_unite_X1_personOf
set_option maxRecDepth 20000 in
theorem ggX1_unite_X3_add : GoodIn wsX1_unite wsX3_add := goodIn_r _ [40, 30, 25, 54, 55, 56, 57, 58] (by decide +kernel) (by decide +kernel)
set_option maxRecDepth 20000 in
theorem gX1_unite_X3_add : GoodIn wsX1_unite (wsV RX1 160 RX3 yX3_add wsX3_add) := goodIn_app (goodIn_of _ (by decide +kernel)) ggX1_unite_X3_add
set_option maxRecDepth 20000 in
theorem ggX1_unite_X1_sortByStanding : GoodIn wsX1_unite wsX1_sortByStanding := goodIn_r _ [44, 1, 20, 21, 22, 23, 24, 25, 26, 27, 28, 29, 30, 45, 46, 47, 7, 48, 49, 31, 32, 33, 34, 35, 36, 50, 51, 52, 53, 54, 55, 56, 57, 58, 59, 60, 61, 62, 63, 64, 65, 66, 67, 68, 69, 70, 71, 72, 73, 74, 75, 76, 77, 78] (by decide +kernel) (by decide +kernel)
set_option maxRecDepth 20000 in
theorem gX1_unite_X1_sortByStanding : GoodIn wsX1_unite (wsV RX1 205 RX1 yX1_sortByStanding wsX1_sortByStanding) := goodIn_app (goodIn_of _ (by decide +kernel)) ggX1_unite_X1_sortByStanding
theorem dX1_unite_0 : decode cX1_unite 0 = .ok (.aload_n 0, 1) := by decide +kernel
theorem dX1_unite_1 : decode cX1_unite 1 = .ok (.iload_n 1, 1) := by decide +kernel
theorem dX1_unite_2 : decode cX1_unite 2 = .ok (.iload_n 2, 1) := by decide +kernel
theorem dX1_unite_3 : decode cX1_unite 3 = .ok (.invokevirtual 202, 3) := by decide +kernel
theorem dX1_unite_6 : decode cX1_unite 6 = .ok (.ifCond .ne 5, 3) := by decide +kernel
theorem dX1_unite_9 : decode cX1_unite 9 = .ok (.iconst (-1), 1) := by decide +kernel
theorem dX1_unite_10 : decode cX1_unite 10 = .ok (.ireturn, 1) := by decide +kernel
theorem dX1_unite_11 : decode cX1_unite 11 = .ok (.aload_n 0, 1) := by decide +kernel
theorem dX1_unite_12 : decode cX1_unite 12 = .ok (.iload_n 1, 1) := by decide +kernel
theorem dX1_unite_13 : decode cX1_unite 13 = .ok (.invokevirtual 65, 3) := by decide +kernel
theorem dX1_unite_16 : decode cX1_unite 16 = .ok (.astore_n 3, 1) := by decide +kernel
theorem dX1_unite_17 : decode cX1_unite 17 = .ok (.aload_n 0, 1) := by decide +kernel
theorem dX1_unite_18 : decode cX1_unite 18 = .ok (.iload_n 2, 1) := by decide +kernel
theorem dX1_unite_19 : decode cX1_unite 19 = .ok (.invokevirtual 65, 3) := by decide +kernel
theorem dX1_unite_22 : decode cX1_unite 22 = .ok (.astore 4, 2) := by decide +kernel
theorem dX1_unite_24 : decode cX1_unite 24 = .ok (.iconst 0, 1) := by decide +kernel
theorem dX1_unite_25 : decode cX1_unite 25 = .ok (.istore 5, 2) := by decide +kernel
theorem dX1_unite_27 : decode cX1_unite 27 = .ok (.iload 5, 2) := by decide +kernel
theorem dX1_unite_29 : decode cX1_unite 29 = .ok (.aload 4, 2) := by decide +kernel
theorem dX1_unite_31 : decode cX1_unite 31 = .ok (.getfield 106, 3) := by decide +kernel
theorem dX1_unite_34 : decode cX1_unite 34 = .ok (.if_icmp .ge 35, 3) := by decide +kernel
theorem dX1_unite_37 : decode cX1_unite 37 = .ok (.aload_n 0, 1) := by decide +kernel
theorem dX1_unite_38 : decode cX1_unite 38 = .ok (.aload 4, 2) := by decide +kernel
theorem dX1_unite_40 : decode cX1_unite 40 = .ok (.iload 5, 2) := by decide +kernel
theorem dX1_unite_42 : decode cX1_unite 42 = .ok (.invokevirtual 119, 3) := by decide +kernel
theorem dX1_unite_45 : decode cX1_unite 45 = .ok (.invokevirtual 73, 3) := by decide +kernel
theorem dX1_unite_48 : decode cX1_unite 48 = .ok (.iload_n 1, 1) := by decide +kernel
theorem dX1_unite_49 : decode cX1_unite 49 = .ok (.putfield 87, 3) := by decide +kernel
theorem dX1_unite_52 : decode cX1_unite 52 = .ok (.aload_n 3, 1) := by decide +kernel
theorem dX1_unite_53 : decode cX1_unite 53 = .ok (.aload 4, 2) := by decide +kernel
theorem dX1_unite_55 : decode cX1_unite 55 = .ok (.iload 5, 2) := by decide +kernel
theorem dX1_unite_57 : decode cX1_unite 57 = .ok (.invokevirtual 119, 3) := by decide +kernel
theorem dX1_unite_60 : decode cX1_unite 60 = .ok (.invokevirtual 160, 3) := by decide +kernel
theorem dX1_unite_63 : decode cX1_unite 63 = .ok (.iinc 5 1, 3) := by decide +kernel
theorem dX1_unite_66 : decode cX1_unite 66 = .ok (.goto (-39), 3) := by decide +kernel
theorem dX1_unite_69 : decode cX1_unite 69 = .ok (.aload 4, 2) := by decide +kernel
theorem dX1_unite_71 : decode cX1_unite 71 = .ok (.iconst 0, 1) := by decide +kernel
theorem dX1_unite_72 : decode cX1_unite 72 = .ok (.putfield 106, 3) := by decide +kernel
theorem dX1_unite_75 : decode cX1_unite 75 = .ok (.aload 4, 2) := by decide +kernel
theorem dX1_unite_77 : decode cX1_unite 77 = .ok (.iconst 0, 1) := by decide +kernel
theorem dX1_unite_78 : decode cX1_unite 78 = .ok (.putfield 109, 3) := by decide +kernel
theorem dX1_unite_81 : decode cX1_unite 81 = .ok (.aload_n 0, 1) := by decide +kernel
theorem dX1_unite_82 : decode cX1_unite 82 = .ok (.aload_n 3, 1) := by decide +kernel
theorem dX1_unite_83 : decode cX1_unite 83 = .ok (.invokevirtual 205, 3) := by decide +kernel
theorem dX1_unite_86 : decode cX1_unite 86 = .ok (.aload_n 3, 1) := by decide +kernel
theorem dX1_unite_87 : decode cX1_unite 87 = .ok (.getfield 106, 3) := by decide +kernel
theorem dX1_unite_90 : decode cX1_unite 90 = .ok (.ireturn, 1) := by decide +kernel
set_option maxRecDepth 20000 in
theorem ggX1_sortByStanding_X3_who : GoodIn wsX1_sortByStanding wsX3_who := goodIn_r _ [6, 7, 8, 9, 10, 5, 11, 12, 29, 30, 31, 32, 33] (by decide +kernel) (by decide +kernel)
set_option maxRecDepth 20000 in
theorem gX1_sortByStanding_X3_who : GoodIn wsX1_sortByStanding (wsV RX1 119 RX3 yX3_who wsX3_who) := goodIn_app (goodIn_of _ (by decide +kernel)) ggX1_sortByStanding_X3_who
set_option maxRecDepth 20000 in
theorem ggX1_sortByStanding_X1_standsBefore : GoodIn wsX1_sortByStanding wsX1_standsBefore := goodIn_r _ [17, 18, 19, 20, 21, 16, 22, 23, 24, 34, 35, 36, 37, 38, 39, 40, 41, 42, 43, 44, 45, 46, 47, 48, 49, 50, 51, 52, 53] (by decide +kernel) (by decide +kernel)
set_option maxRecDepth 20000 in
theorem gX1_sortByStanding_X1_standsBefore : GoodIn wsX1_sortByStanding (wsV RX1 208 RX1 yX1_standsBefore wsX1_standsBefore) := goodIn_app (goodIn_of _ (by decide +kernel)) ggX1_sortByStanding_X1_standsBefore
set_option maxRecDepth 20000 in
theorem ggX1_sortByStanding_X3_swap : GoodIn wsX1_sortByStanding wsX3_swap := goodIn_r _ [28, 7, 8, 9, 10, 5, 11, 12, 29, 30, 31, 32, 33] (by decide +kernel) (by decide +kernel)
set_option maxRecDepth 20000 in
theorem gX1_sortByStanding_X3_swap : GoodIn wsX1_sortByStanding (wsV RX1 178 RX3 yX3_swap wsX3_swap) := goodIn_app (goodIn_of _ (by decide +kernel)) ggX1_sortByStanding_X3_swap
theorem dX1_sortByStanding_0 : decode cX1_sortByStanding 0 = .ok (.iconst 1, 1) := by decide +kernel
theorem dX1_sortByStanding_1 : decode cX1_sortByStanding 1 = .ok (.istore_n 2, 1) := by decide +kernel
theorem dX1_sortByStanding_2 : decode cX1_sortByStanding 2 = .ok (.iload_n 2, 1) := by decide +kernel
theorem dX1_sortByStanding_3 : decode cX1_sortByStanding 3 = .ok (.aload_n 1, 1) := by decide +kernel
theorem dX1_sortByStanding_4 : decode cX1_sortByStanding 4 = .ok (.getfield 106, 3) := by decide +kernel
theorem dX1_sortByStanding_7 : decode cX1_sortByStanding 7 = .ok (.if_icmp .ge 48, 3) := by decide +kernel
theorem dX1_sortByStanding_10 : decode cX1_sortByStanding 10 = .ok (.iload_n 2, 1) := by decide +kernel
theorem dX1_sortByStanding_11 : decode cX1_sortByStanding 11 = .ok (.istore_n 3, 1) := by decide +kernel
theorem dX1_sortByStanding_12 : decode cX1_sortByStanding 12 = .ok (.iload_n 3, 1) := by decide +kernel
theorem dX1_sortByStanding_13 : decode cX1_sortByStanding 13 = .ok (.ifCond .le 36, 3) := by decide +kernel
theorem dX1_sortByStanding_16 : decode cX1_sortByStanding 16 = .ok (.aload_n 0, 1) := by decide +kernel
theorem dX1_sortByStanding_17 : decode cX1_sortByStanding 17 = .ok (.aload_n 1, 1) := by decide +kernel
theorem dX1_sortByStanding_18 : decode cX1_sortByStanding 18 = .ok (.iload_n 3, 1) := by decide +kernel
theorem dX1_sortByStanding_19 : decode cX1_sortByStanding 19 = .ok (.invokevirtual 119, 3) := by decide +kernel
theorem dX1_sortByStanding_22 : decode cX1_sortByStanding 22 = .ok (.aload_n 1, 1) := by decide +kernel
theorem dX1_sortByStanding_23 : decode cX1_sortByStanding 23 = .ok (.iload_n 3, 1) := by decide +kernel
theorem dX1_sortByStanding_24 : decode cX1_sortByStanding 24 = .ok (.iconst 1, 1) := by decide +kernel
theorem dX1_sortByStanding_25 : decode cX1_sortByStanding 25 = .ok (.isub, 1) := by decide +kernel
theorem dX1_sortByStanding_26 : decode cX1_sortByStanding 26 = .ok (.invokevirtual 119, 3) := by decide +kernel
theorem dX1_sortByStanding_29 : decode cX1_sortByStanding 29 = .ok (.invokevirtual 208, 3) := by decide +kernel
theorem dX1_sortByStanding_32 : decode cX1_sortByStanding 32 = .ok (.ifCond .eq 17, 3) := by decide +kernel
theorem dX1_sortByStanding_35 : decode cX1_sortByStanding 35 = .ok (.aload_n 1, 1) := by decide +kernel
theorem dX1_sortByStanding_36 : decode cX1_sortByStanding 36 = .ok (.iload_n 3, 1) := by decide +kernel
theorem dX1_sortByStanding_37 : decode cX1_sortByStanding 37 = .ok (.iconst 1, 1) := by decide +kernel
theorem dX1_sortByStanding_38 : decode cX1_sortByStanding 38 = .ok (.isub, 1) := by decide +kernel
theorem dX1_sortByStanding_39 : decode cX1_sortByStanding 39 = .ok (.iload_n 3, 1) := by decide +kernel
theorem dX1_sortByStanding_40 : decode cX1_sortByStanding 40 = .ok (.invokevirtual 178, 3) := by decide +kernel
theorem dX1_sortByStanding_43 : decode cX1_sortByStanding 43 = .ok (.iinc 3 (-1), 3) := by decide +kernel
theorem dX1_sortByStanding_46 : decode cX1_sortByStanding 46 = .ok (.goto (-34), 3) := by decide +kernel
theorem dX1_sortByStanding_49 : decode cX1_sortByStanding 49 = .ok (.iinc 2 1, 3) := by decide +kernel
theorem dX1_sortByStanding_52 : decode cX1_sortByStanding 52 = .ok (.goto (-50), 3) := by decide +kernel
theorem dX1_sortByStanding_55 : decode cX1_sortByStanding 55 = .ok (.return_, 1) := by decide +kernel
set_option maxRecDepth 20000 in
theorem ggX1_standsBefore_X1_personOf : GoodIn wsX1_standsBefore wsX1_personOf := goodIn_r _ [6, 7, 8, 18, 19, 20, 21, 22, 23, 24, 25, 26, 27, 28] (by decide +kernel) (by decide +kernel)
set_option maxRecDepth 20000 in
theorem gX1_standsBefore_X1_personOf : GoodIn wsX1_standsBefore (wsV RX1 73 RX1 yX1_personOf wsX1_personOf) := goodIn_app (goodIn_of _ (by decide +kernel)) ggX1_standsBefore_X1_personOf
theorem dX1_standsBefore_0 : decode cX1_standsBefore 0 = .ok (.aload_n 0, 1) := by decide +kernel
theorem dX1_standsBefore_1 : decode cX1_standsBefore 1 = .ok (.iload_n 1, 1) := by decide +kernel
theorem dX1_standsBefore_2 : decode cX1_standsBefore 2 = .ok (.invokevirtual 73, 3) := by decide +kernel
theorem dX1_standsBefore_5 : decode cX1_standsBefore 5 = .ok (.getfield 122, 3) := by decide +kernel
theorem dX1_standsBefore_8 : decode cX1_standsBefore 8 = .ok (.aload_n 0, 1) := by decide +kernel
theorem dX1_standsBefore_9 : decode cX1_standsBefore 9 = .ok (.iload_n 2, 1) := by decide +kernel
theorem dX1_standsBefore_10 : decode cX1_standsBefore 10 = .ok (.invokevirtual 73, 3) := by decide +kernel
theorem dX1_standsBefore_13 : decode cX1_standsBefore 13 = .ok (.getfield 122, 3) := by decide +kernel
theorem dX1_standsBefore_16 : decode cX1_standsBefore 16 = .ok (.isub, 1) := by decide +kernel
theorem dX1_standsBefore_17 : decode cX1_standsBefore 17 = .ok (.istore_n 3, 1) := by decide +kernel
theorem dX1_standsBefore_18 : decode cX1_standsBefore 18 = .ok (.iload_n 3, 1) := by decide +kernel
theorem dX1_standsBefore_19 : decode cX1_standsBefore 19 = .ok (.ifCond .gt 12, 3) := by decide +kernel
theorem dX1_standsBefore_22 : decode cX1_standsBefore 22 = .ok (.iload_n 3, 1) := by decide +kernel
theorem dX1_standsBefore_23 : decode cX1_standsBefore 23 = .ok (.ifCond .ne 12, 3) := by decide +kernel
theorem dX1_standsBefore_26 : decode cX1_standsBefore 26 = .ok (.iload_n 1, 1) := by decide +kernel
theorem dX1_standsBefore_27 : decode cX1_standsBefore 27 = .ok (.iload_n 2, 1) := by decide +kernel
theorem dX1_standsBefore_28 : decode cX1_standsBefore 28 = .ok (.if_icmp .ge 7, 3) := by decide +kernel
theorem dX1_standsBefore_31 : decode cX1_standsBefore 31 = .ok (.iconst 1, 1) := by decide +kernel
theorem dX1_standsBefore_32 : decode cX1_standsBefore 32 = .ok (.goto 4, 3) := by decide +kernel
theorem dX1_standsBefore_35 : decode cX1_standsBefore 35 = .ok (.iconst 0, 1) := by decide +kernel
theorem dX1_standsBefore_36 : decode cX1_standsBefore 36 = .ok (.ireturn, 1) := by decide +kernel
set_option maxRecDepth 20000 in
theorem ggX1_letPass_X1_certifyMinute : GoodIn wsX1_letPass wsX1_certifyMinute := goodIn_r _ [7, 8, 9, 10, 11, 12, 6, 13, 14, 15, 16, 17, 18, 19, 20, 21, 22, 23, 24, 73, 74, 75, 76, 77, 78, 79, 80, 81, 82, 83, 84, 85, 86, 87, 88, 89, 90, 91, 92] (by decide +kernel) (by decide +kernel)
set_option maxRecDepth 20000 in
theorem gX1_letPass_X1_certifyMinute : GoodIn wsX1_letPass (wsV RX1 211 RX1 yX1_certifyMinute wsX1_certifyMinute) := goodIn_app (goodIn_of _ (by decide +kernel)) ggX1_letPass_X1_certifyMinute
set_option maxRecDepth 20000 in
theorem ggX1_letPass_X1_lineOf : GoodIn wsX1_letPass wsX1_lineOf := goodIn_r _ [28, 29, 30, 73, 74, 75, 76, 77, 78, 79, 80, 81, 82, 83] (by decide +kernel) (by decide +kernel)
set_option maxRecDepth 20000 in
theorem gX1_letPass_X1_lineOf : GoodIn wsX1_letPass (wsV RX1 65 RX1 yX1_lineOf wsX1_lineOf) := goodIn_app (goodIn_of _ (by decide +kernel)) ggX1_letPass_X1_lineOf
set_option maxRecDepth 20000 in
theorem ggX1_letPass_X1_work : GoodIn wsX1_letPass wsX1_work := goodIn_r _ [34, 35, 36, 37, 38, 39, 40, 41, 42, 43, 44, 45, 46, 47, 48, 49, 19, 20, 21, 6, 22, 23, 24, 50, 51, 52, 53, 54, 55, 56, 57, 58, 59, 60, 93, 94, 95, 96, 97, 73, 74, 75, 76, 77, 78, 79, 80, 81, 82, 83, 84, 85, 86, 87, 88, 89, 90, 91, 92] (by decide +kernel) (by decide +kernel)
set_option maxRecDepth 20000 in
theorem gX1_letPass_X1_work : GoodIn wsX1_letPass (wsV RX1 214 RX1 yX1_work wsX1_work) := goodIn_app (goodIn_of _ (by decide +kernel)) ggX1_letPass_X1_work
set_option maxRecDepth 20000 in
theorem ggX1_letPass_X1_payFees : GoodIn wsX1_letPass wsX1_payFees := goodIn_r _ [64, 8, 9, 65, 19, 20, 21, 6, 22, 23, 24, 10, 11, 12, 13, 14, 15, 16, 17, 18, 66, 67, 68, 69, 70, 71, 72, 73, 74, 75, 76, 77, 78, 79, 80, 81, 82, 83, 84, 85, 86, 87, 88, 89, 90, 91, 92] (by decide +kernel) (by decide +kernel)
set_option maxRecDepth 20000 in
theorem gX1_letPass_X1_payFees : GoodIn wsX1_letPass (wsV RX1 217 RX1 yX1_payFees wsX1_payFees) := goodIn_app (goodIn_of _ (by decide +kernel)) ggX1_letPass_X1_payFees
theorem dX1_letPass_0 : decode cX1_letPass 0 = .ok (.iconst 0, 1) := by decide +kernel
theorem dX1_letPass_1 : decode cX1_letPass 1 = .ok (.istore_n 2, 1) := by decide +kernel
theorem dX1_letPass_2 : decode cX1_letPass 2 = .ok (.iconst 0, 1) := by decide +kernel
theorem dX1_letPass_3 : decode cX1_letPass 3 = .ok (.istore_n 3, 1) := by decide +kernel
theorem dX1_letPass_4 : decode cX1_letPass 4 = .ok (.iload_n 3, 1) := by decide +kernel
theorem dX1_letPass_5 : decode cX1_letPass 5 = .ok (.iload_n 1, 1) := by decide +kernel
theorem dX1_letPass_6 : decode cX1_letPass 6 = .ok (.if_icmp .ge 58, 3) := by decide +kernel
theorem dX1_letPass_9 : decode cX1_letPass 9 = .ok (.aload_n 0, 1) := by decide +kernel
theorem dX1_letPass_10 : decode cX1_letPass 10 = .ok (.dup, 1) := by decide +kernel
theorem dX1_letPass_11 : decode cX1_letPass 11 = .ok (.getfield 44, 3) := by decide +kernel
theorem dX1_letPass_14 : decode cX1_letPass 14 = .ok (.iconst 1, 1) := by decide +kernel
theorem dX1_letPass_15 : decode cX1_letPass 15 = .ok (.iadd, 1) := by decide +kernel
theorem dX1_letPass_16 : decode cX1_letPass 16 = .ok (.putfield 44, 3) := by decide +kernel
theorem dX1_letPass_19 : decode cX1_letPass 19 = .ok (.aload_n 0, 1) := by decide +kernel
theorem dX1_letPass_20 : decode cX1_letPass 20 = .ok (.invokevirtual 211, 3) := by decide +kernel
theorem dX1_letPass_23 : decode cX1_letPass 23 = .ok (.iconst 0, 1) := by decide +kernel
theorem dX1_letPass_24 : decode cX1_letPass 24 = .ok (.istore 4, 2) := by decide +kernel
theorem dX1_letPass_26 : decode cX1_letPass 26 = .ok (.iload 4, 2) := by decide +kernel
theorem dX1_letPass_28 : decode cX1_letPass 28 = .ok (.aload_n 0, 1) := by decide +kernel
theorem dX1_letPass_29 : decode cX1_letPass 29 = .ok (.getfield 37, 3) := by decide +kernel
theorem dX1_letPass_32 : decode cX1_letPass 32 = .ok (.if_icmp .ge 22, 3) := by decide +kernel
theorem dX1_letPass_35 : decode cX1_letPass 35 = .ok (.iload_n 2, 1) := by decide +kernel
theorem dX1_letPass_36 : decode cX1_letPass 36 = .ok (.aload_n 0, 1) := by decide +kernel
theorem dX1_letPass_37 : decode cX1_letPass 37 = .ok (.aload_n 0, 1) := by decide +kernel
theorem dX1_letPass_38 : decode cX1_letPass 38 = .ok (.iload 4, 2) := by decide +kernel
theorem dX1_letPass_40 : decode cX1_letPass 40 = .ok (.invokevirtual 65, 3) := by decide +kernel
theorem dX1_letPass_43 : decode cX1_letPass 43 = .ok (.invokevirtual 214, 3) := by decide +kernel
theorem dX1_letPass_46 : decode cX1_letPass 46 = .ok (.iadd, 1) := by decide +kernel
theorem dX1_letPass_47 : decode cX1_letPass 47 = .ok (.istore_n 2, 1) := by decide +kernel
theorem dX1_letPass_48 : decode cX1_letPass 48 = .ok (.iinc 4 1, 3) := by decide +kernel
theorem dX1_letPass_51 : decode cX1_letPass 51 = .ok (.goto (-25), 3) := by decide +kernel
theorem dX1_letPass_54 : decode cX1_letPass 54 = .ok (.aload_n 0, 1) := by decide +kernel
theorem dX1_letPass_55 : decode cX1_letPass 55 = .ok (.invokevirtual 217, 3) := by decide +kernel
theorem dX1_letPass_58 : decode cX1_letPass 58 = .ok (.iinc 3 1, 3) := by decide +kernel
theorem dX1_letPass_61 : decode cX1_letPass 61 = .ok (.goto (-57), 3) := by decide +kernel
theorem dX1_letPass_64 : decode cX1_letPass 64 = .ok (.iload_n 2, 1) := by decide +kernel
theorem dX1_letPass_65 : decode cX1_letPass 65 = .ok (.ireturn, 1) := by decide +kernel
set_option maxRecDepth 20000 in
theorem ggX1_certifyMinute_X1_stands : GoodIn wsX1_certifyMinute wsX1_stands := goodIn_r _ [7, 8, 9, 10, 11, 6, 12, 1, 13, 14, 15, 16, 17, 18, 30, 31, 32, 33, 34, 35, 36, 37, 38, 19, 20, 21, 22, 23, 24, 25, 26, 27, 28, 29] (by decide +kernel) (by decide +kernel)
set_option maxRecDepth 20000 in
theorem gX1_certifyMinute_X1_stands : GoodIn wsX1_certifyMinute (wsV RX1 163 RX1 yX1_stands wsX1_stands) := goodIn_app (goodIn_of _ (by decide +kernel)) ggX1_certifyMinute_X1_stands
set_option maxRecDepth 20000 in
theorem ggX1_certifyMinute_X1_personOf : GoodIn wsX1_certifyMinute wsX1_personOf := goodIn_r _ [16, 17, 18, 19, 20, 21, 22, 23, 24, 25, 26, 27, 28, 29] (by decide +kernel) (by decide +kernel)
set_option maxRecDepth 20000 in
theorem gX1_certifyMinute_X1_personOf : GoodIn wsX1_certifyMinute (wsV RX1 73 RX1 yX1_personOf wsX1_personOf) := goodIn_app (goodIn_of _ (by decide +kernel)) ggX1_certifyMinute_X1_personOf
theorem dX1_certifyMinute_0 : decode cX1_certifyMinute 0 = .ok (.iconst 0, 1) := by decide +kernel
theorem dX1_certifyMinute_1 : decode cX1_certifyMinute 1 = .ok (.istore_n 1, 1) := by decide +kernel
theorem dX1_certifyMinute_2 : decode cX1_certifyMinute 2 = .ok (.iload_n 1, 1) := by decide +kernel
theorem dX1_certifyMinute_3 : decode cX1_certifyMinute 3 = .ok (.aload_n 0, 1) := by decide +kernel
theorem dX1_certifyMinute_4 : decode cX1_certifyMinute 4 = .ok (.getfield 41, 3) := by decide +kernel
theorem dX1_certifyMinute_7 : decode cX1_certifyMinute 7 = .ok (.if_icmp .ge 31, 3) := by decide +kernel
theorem dX1_certifyMinute_10 : decode cX1_certifyMinute 10 = .ok (.aload_n 0, 1) := by decide +kernel
theorem dX1_certifyMinute_11 : decode cX1_certifyMinute 11 = .ok (.iload_n 1, 1) := by decide +kernel
theorem dX1_certifyMinute_12 : decode cX1_certifyMinute 12 = .ok (.invokevirtual 163, 3) := by decide +kernel
theorem dX1_certifyMinute_15 : decode cX1_certifyMinute 15 = .ok (.ifCond .eq 17, 3) := by decide +kernel
theorem dX1_certifyMinute_18 : decode cX1_certifyMinute 18 = .ok (.aload_n 0, 1) := by decide +kernel
theorem dX1_certifyMinute_19 : decode cX1_certifyMinute 19 = .ok (.iload_n 1, 1) := by decide +kernel
theorem dX1_certifyMinute_20 : decode cX1_certifyMinute 20 = .ok (.invokevirtual 73, 3) := by decide +kernel
theorem dX1_certifyMinute_23 : decode cX1_certifyMinute 23 = .ok (.dup, 1) := by decide +kernel
theorem dX1_certifyMinute_24 : decode cX1_certifyMinute 24 = .ok (.getfield 122, 3) := by decide +kernel
theorem dX1_certifyMinute_27 : decode cX1_certifyMinute 27 = .ok (.iconst 1, 1) := by decide +kernel
theorem dX1_certifyMinute_28 : decode cX1_certifyMinute 28 = .ok (.iadd, 1) := by decide +kernel
theorem dX1_certifyMinute_29 : decode cX1_certifyMinute 29 = .ok (.putfield 122, 3) := by decide +kernel
theorem dX1_certifyMinute_32 : decode cX1_certifyMinute 32 = .ok (.iinc 1 1, 3) := by decide +kernel
theorem dX1_certifyMinute_35 : decode cX1_certifyMinute 35 = .ok (.goto (-33), 3) := by decide +kernel
theorem dX1_certifyMinute_38 : decode cX1_certifyMinute 38 = .ok (.return_, 1) := by decide +kernel
set_option maxRecDepth 20000 in
theorem ggX1_work_X3_who : GoodIn wsX1_work wsX3_who := goodIn_r _ [9, 10, 11, 12, 13, 8, 14, 15, 34, 35, 36, 37, 38] (by decide +kernel) (by decide +kernel)
set_option maxRecDepth 20000 in
theorem gX1_work_X3_who : GoodIn wsX1_work (wsV RX1 119 RX3 yX3_who wsX3_who) := goodIn_app (goodIn_of _ (by decide +kernel)) ggX1_work_X3_who
set_option maxRecDepth 20000 in
theorem ggX1_work_X1_personOf : GoodIn wsX1_work wsX1_personOf := goodIn_r _ [20, 21, 22, 39, 40, 41, 42, 43, 44, 45, 46, 47, 48, 49] (by decide +kernel) (by decide +kernel)
set_option maxRecDepth 20000 in
theorem gX1_work_X1_personOf : GoodIn wsX1_work (wsV RX1 73 RX1 yX1_personOf wsX1_personOf) := goodIn_app (goodIn_of _ (by decide +kernel)) ggX1_work_X1_personOf
set_option maxRecDepth 20000 in
theorem ggX1_work_X4_end : GoodIn wsX1_work wsX4_end := goodIn_r _ [27, 28, 29, 50, 51, 52, 53, 54, 55, 56, 57, 58] (by decide +kernel) (by decide +kernel)
set_option maxRecDepth 20000 in
theorem gX1_work_X4_end : GoodIn wsX1_work (wsV RX1 169 RX4 yX4_end wsX4_end) := goodIn_app (goodIn_of _ (by decide +kernel)) ggX1_work_X4_end
set_option maxRecDepth 20000 in
theorem ggX1_work_X3_remove : GoodIn wsX1_work wsX3_remove := goodIn_r _ [33, 15, 10, 11, 12, 13, 8, 14, 34, 35, 36, 37, 38] (by decide +kernel) (by decide +kernel)
set_option maxRecDepth 20000 in
theorem gX1_work_X3_remove : GoodIn wsX1_work (wsV RX1 166 RX3 yX3_remove wsX3_remove) := goodIn_app (goodIn_of _ (by decide +kernel)) ggX1_work_X3_remove
theorem dX1_work_0 : decode cX1_work 0 = .ok (.aload_n 1, 1) := by decide +kernel
theorem dX1_work_1 : decode cX1_work 1 = .ok (.getfield 106, 3) := by decide +kernel
theorem dX1_work_4 : decode cX1_work 4 = .ok (.ifCond .ne 5, 3) := by decide +kernel
theorem dX1_work_7 : decode cX1_work 7 = .ok (.iconst 0, 1) := by decide +kernel
theorem dX1_work_8 : decode cX1_work 8 = .ok (.ireturn, 1) := by decide +kernel
theorem dX1_work_9 : decode cX1_work 9 = .ok (.aload_n 1, 1) := by decide +kernel
theorem dX1_work_10 : decode cX1_work 10 = .ok (.dup, 1) := by decide +kernel
theorem dX1_work_11 : decode cX1_work 11 = .ok (.getfield 109, 3) := by decide +kernel
theorem dX1_work_14 : decode cX1_work 14 = .ok (.iconst 1, 1) := by decide +kernel
theorem dX1_work_15 : decode cX1_work 15 = .ok (.iadd, 1) := by decide +kernel
theorem dX1_work_16 : decode cX1_work 16 = .ok (.putfield 109, 3) := by decide +kernel
theorem dX1_work_19 : decode cX1_work 19 = .ok (.aload_n 1, 1) := by decide +kernel
theorem dX1_work_20 : decode cX1_work 20 = .ok (.getfield 109, 3) := by decide +kernel
theorem dX1_work_23 : decode cX1_work 23 = .ok (.aload_n 1, 1) := by decide +kernel
theorem dX1_work_24 : decode cX1_work 24 = .ok (.getfield 103, 3) := by decide +kernel
theorem dX1_work_27 : decode cX1_work 27 = .ok (.if_icmp .ge 5, 3) := by decide +kernel
theorem dX1_work_30 : decode cX1_work 30 = .ok (.iconst 0, 1) := by decide +kernel
theorem dX1_work_31 : decode cX1_work 31 = .ok (.ireturn, 1) := by decide +kernel
theorem dX1_work_32 : decode cX1_work 32 = .ok (.aload_n 0, 1) := by decide +kernel
theorem dX1_work_33 : decode cX1_work 33 = .ok (.aload_n 1, 1) := by decide +kernel
theorem dX1_work_34 : decode cX1_work 34 = .ok (.iconst 0, 1) := by decide +kernel
theorem dX1_work_35 : decode cX1_work 35 = .ok (.invokevirtual 119, 3) := by decide +kernel
theorem dX1_work_38 : decode cX1_work 38 = .ok (.invokevirtual 73, 3) := by decide +kernel
theorem dX1_work_41 : decode cX1_work 41 = .ok (.iconst 1, 1) := by decide +kernel
theorem dX1_work_42 : decode cX1_work 42 = .ok (.invokevirtual 169, 3) := by decide +kernel
theorem dX1_work_45 : decode cX1_work 45 = .ok (.aload_n 1, 1) := by decide +kernel
theorem dX1_work_46 : decode cX1_work 46 = .ok (.iconst 0, 1) := by decide +kernel
theorem dX1_work_47 : decode cX1_work 47 = .ok (.invokevirtual 166, 3) := by decide +kernel
theorem dX1_work_50 : decode cX1_work 50 = .ok (.aload_n 1, 1) := by decide +kernel
theorem dX1_work_51 : decode cX1_work 51 = .ok (.iconst 0, 1) := by decide +kernel
theorem dX1_work_52 : decode cX1_work 52 = .ok (.putfield 109, 3) := by decide +kernel
theorem dX1_work_55 : decode cX1_work 55 = .ok (.aload_n 1, 1) := by decide +kernel
theorem dX1_work_56 : decode cX1_work 56 = .ok (.dup, 1) := by decide +kernel
theorem dX1_work_57 : decode cX1_work 57 = .ok (.getfield 112, 3) := by decide +kernel
theorem dX1_work_60 : decode cX1_work 60 = .ok (.iconst 1, 1) := by decide +kernel
theorem dX1_work_61 : decode cX1_work 61 = .ok (.iadd, 1) := by decide +kernel
theorem dX1_work_62 : decode cX1_work 62 = .ok (.putfield 112, 3) := by decide +kernel
theorem dX1_work_65 : decode cX1_work 65 = .ok (.iconst 1, 1) := by decide +kernel
theorem dX1_work_66 : decode cX1_work 66 = .ok (.ireturn, 1) := by decide +kernel
set_option maxRecDepth 20000 in
theorem ggX1_payFees_X1_personOf : GoodIn wsX1_payFees wsX1_personOf := goodIn_r _ [8, 9, 10, 27, 28, 29, 30, 31, 32, 33, 34, 35, 36, 37] (by decide +kernel) (by decide +kernel)
set_option maxRecDepth 20000 in
theorem gX1_payFees_X1_personOf : GoodIn wsX1_payFees (wsV RX1 73 RX1 yX1_personOf wsX1_personOf) := goodIn_app (goodIn_of _ (by decide +kernel)) ggX1_payFees_X1_personOf
set_option maxRecDepth 20000 in
theorem ggX1_payFees_X1_stands : GoodIn wsX1_payFees wsX1_stands := goodIn_r _ [14, 15, 16, 17, 18, 7, 19, 1, 4, 5, 6, 8, 9, 10, 38, 39, 40, 41, 42, 43, 44, 45, 46, 27, 28, 29, 30, 31, 32, 33, 34, 35, 36, 37] (by decide +kernel) (by decide +kernel)
set_option maxRecDepth 20000 in
theorem gX1_payFees_X1_stands : GoodIn wsX1_payFees (wsV RX1 163 RX1 yX1_stands wsX1_stands) := goodIn_app (goodIn_of _ (by decide +kernel)) ggX1_payFees_X1_stands
set_option maxRecDepth 20000 in
theorem ggX1_payFees_X1_payByHouse : GoodIn wsX1_payFees wsX1_payByHouse := goodIn_r _ [23, 24, 25, 26, 38, 39, 40, 41, 42, 43, 44, 45, 46, 27, 28, 29, 30, 31, 32, 33, 34, 35, 36, 37] (by decide +kernel) (by decide +kernel)
set_option maxRecDepth 20000 in
theorem gX1_payFees_X1_payByHouse : GoodIn wsX1_payFees (wsV RX1 198 RX1 yX1_payByHouse wsX1_payByHouse) := goodIn_app (goodIn_of _ (by decide +kernel)) ggX1_payFees_X1_payByHouse
theorem dX1_payFees_0 : decode cX1_payFees 0 = .ok (.iconst 0, 1) := by decide +kernel
theorem dX1_payFees_1 : decode cX1_payFees 1 = .ok (.istore_n 1, 1) := by decide +kernel
theorem dX1_payFees_2 : decode cX1_payFees 2 = .ok (.iload_n 1, 1) := by decide +kernel
theorem dX1_payFees_3 : decode cX1_payFees 3 = .ok (.aload_n 0, 1) := by decide +kernel
theorem dX1_payFees_4 : decode cX1_payFees 4 = .ok (.getfield 41, 3) := by decide +kernel
theorem dX1_payFees_7 : decode cX1_payFees 7 = .ok (.if_icmp .ge 59, 3) := by decide +kernel
theorem dX1_payFees_10 : decode cX1_payFees 10 = .ok (.aload_n 0, 1) := by decide +kernel
theorem dX1_payFees_11 : decode cX1_payFees 11 = .ok (.iload_n 1, 1) := by decide +kernel
theorem dX1_payFees_12 : decode cX1_payFees 12 = .ok (.invokevirtual 73, 3) := by decide +kernel
theorem dX1_payFees_15 : decode cX1_payFees 15 = .ok (.getfield 122, 3) := by decide +kernel
theorem dX1_payFees_18 : decode cX1_payFees 18 = .ok (.aload_n 0, 1) := by decide +kernel
theorem dX1_payFees_19 : decode cX1_payFees 19 = .ok (.getfield 9, 3) := by decide +kernel
theorem dX1_payFees_22 : decode cX1_payFees 22 = .ok (.iconst 0, 1) := by decide +kernel
theorem dX1_payFees_23 : decode cX1_payFees 23 = .ok (.iaload, 1) := by decide +kernel
theorem dX1_payFees_24 : decode cX1_payFees 24 = .ok (.isub, 1) := by decide +kernel
theorem dX1_payFees_25 : decode cX1_payFees 25 = .ok (.istore_n 2, 1) := by decide +kernel
theorem dX1_payFees_26 : decode cX1_payFees 26 = .ok (.aload_n 0, 1) := by decide +kernel
theorem dX1_payFees_27 : decode cX1_payFees 27 = .ok (.iload_n 1, 1) := by decide +kernel
theorem dX1_payFees_28 : decode cX1_payFees 28 = .ok (.invokevirtual 163, 3) := by decide +kernel
theorem dX1_payFees_31 : decode cX1_payFees 31 = .ok (.ifCond .eq 29, 3) := by decide +kernel
theorem dX1_payFees_34 : decode cX1_payFees 34 = .ok (.iload_n 2, 1) := by decide +kernel
theorem dX1_payFees_35 : decode cX1_payFees 35 = .ok (.ifCond .lt 25, 3) := by decide +kernel
theorem dX1_payFees_38 : decode cX1_payFees 38 = .ok (.iload_n 2, 1) := by decide +kernel
theorem dX1_payFees_39 : decode cX1_payFees 39 = .ok (.bipush 10, 2) := by decide +kernel
theorem dX1_payFees_41 : decode cX1_payFees 41 = .ok (.irem, 1) := by decide +kernel
theorem dX1_payFees_42 : decode cX1_payFees 42 = .ok (.ifCond .ne 18, 3) := by decide +kernel
theorem dX1_payFees_45 : decode cX1_payFees 45 = .ok (.aload_n 0, 1) := by decide +kernel
theorem dX1_payFees_46 : decode cX1_payFees 46 = .ok (.aload_n 0, 1) := by decide +kernel
theorem dX1_payFees_47 : decode cX1_payFees 47 = .ok (.iload_n 1, 1) := by decide +kernel
theorem dX1_payFees_48 : decode cX1_payFees 48 = .ok (.invokevirtual 73, 3) := by decide +kernel
theorem dX1_payFees_51 : decode cX1_payFees 51 = .ok (.aload_n 0, 1) := by decide +kernel
theorem dX1_payFees_52 : decode cX1_payFees 52 = .ok (.getfield 9, 3) := by decide +kernel
theorem dX1_payFees_55 : decode cX1_payFees 55 = .ok (.iconst 1, 1) := by decide +kernel
theorem dX1_payFees_56 : decode cX1_payFees 56 = .ok (.iaload, 1) := by decide +kernel
theorem dX1_payFees_57 : decode cX1_payFees 57 = .ok (.invokevirtual 198, 3) := by decide +kernel
theorem dX1_payFees_60 : decode cX1_payFees 60 = .ok (.iinc 1 1, 3) := by decide +kernel
theorem dX1_payFees_63 : decode cX1_payFees 63 = .ok (.goto (-61), 3) := by decide +kernel
theorem dX1_payFees_66 : decode cX1_payFees 66 = .ok (.return_, 1) := by decide +kernel
theorem dX1_changeSetting_0 : decode cX1_changeSetting 0 = .ok (.iload_n 1, 1) := by decide +kernel
theorem dX1_changeSetting_1 : decode cX1_changeSetting 1 = .ok (.ifCond .lt 12, 3) := by decide +kernel
theorem dX1_changeSetting_4 : decode cX1_changeSetting 4 = .ok (.iload_n 1, 1) := by decide +kernel
theorem dX1_changeSetting_5 : decode cX1_changeSetting 5 = .ok (.aload_n 0, 1) := by decide +kernel
theorem dX1_changeSetting_6 : decode cX1_changeSetting 6 = .ok (.getfield 9, 3) := by decide +kernel
theorem dX1_changeSetting_9 : decode cX1_changeSetting 9 = .ok (.arraylength, 1) := by decide +kernel
theorem dX1_changeSetting_10 : decode cX1_changeSetting 10 = .ok (.if_icmp .lt 5, 3) := by decide +kernel
theorem dX1_changeSetting_13 : decode cX1_changeSetting 13 = .ok (.iconst (-1), 1) := by decide +kernel
theorem dX1_changeSetting_14 : decode cX1_changeSetting 14 = .ok (.ireturn, 1) := by decide +kernel
theorem dX1_changeSetting_15 : decode cX1_changeSetting 15 = .ok (.aload_n 0, 1) := by decide +kernel
theorem dX1_changeSetting_16 : decode cX1_changeSetting 16 = .ok (.getfield 9, 3) := by decide +kernel
theorem dX1_changeSetting_19 : decode cX1_changeSetting 19 = .ok (.iload_n 1, 1) := by decide +kernel
theorem dX1_changeSetting_20 : decode cX1_changeSetting 20 = .ok (.iaload, 1) := by decide +kernel
theorem dX1_changeSetting_21 : decode cX1_changeSetting 21 = .ok (.istore_n 3, 1) := by decide +kernel
theorem dX1_changeSetting_22 : decode cX1_changeSetting 22 = .ok (.aload_n 0, 1) := by decide +kernel
theorem dX1_changeSetting_23 : decode cX1_changeSetting 23 = .ok (.getfield 9, 3) := by decide +kernel
theorem dX1_changeSetting_26 : decode cX1_changeSetting 26 = .ok (.iload_n 1, 1) := by decide +kernel
theorem dX1_changeSetting_27 : decode cX1_changeSetting 27 = .ok (.iload_n 2, 1) := by decide +kernel
theorem dX1_changeSetting_28 : decode cX1_changeSetting 28 = .ok (.iastore, 1) := by decide +kernel
theorem dX1_changeSetting_29 : decode cX1_changeSetting 29 = .ok (.iload_n 3, 1) := by decide +kernel
theorem dX1_changeSetting_30 : decode cX1_changeSetting 30 = .ok (.ireturn, 1) := by decide +kernel
set_option maxRecDepth 20000 in
theorem ggX1_waitOf_X1_personOf : GoodIn wsX1_waitOf wsX1_personOf := goodIn_r _ [6, 7, 8, 41, 42, 43, 44, 45, 46, 47, 48, 49, 50, 51] (by decide +kernel) (by decide +kernel)
set_option maxRecDepth 20000 in
theorem gX1_waitOf_X1_personOf : GoodIn wsX1_waitOf (wsV RX1 73 RX1 yX1_personOf wsX1_personOf) := goodIn_app (goodIn_of _ (by decide +kernel)) ggX1_waitOf_X1_personOf
set_option maxRecDepth 20000 in
theorem ggX1_waitOf_X1_lineOf : GoodIn wsX1_waitOf wsX1_lineOf := goodIn_r _ [12, 13, 14, 41, 42, 43, 44, 45, 46, 47, 48, 49, 50, 51] (by decide +kernel) (by decide +kernel)
set_option maxRecDepth 20000 in
theorem gX1_waitOf_X1_lineOf : GoodIn wsX1_waitOf (wsV RX1 65 RX1 yX1_lineOf wsX1_lineOf) := goodIn_app (goodIn_of _ (by decide +kernel)) ggX1_waitOf_X1_lineOf
set_option maxRecDepth 20000 in
theorem ggX1_waitOf_X1_placeOf : GoodIn wsX1_waitOf wsX1_placeOf := goodIn_r _ [18, 1, 2, 3, 4, 5, 6, 7, 8, 9, 10, 11, 12, 13, 14, 19, 20, 21, 22, 23, 24, 25, 32, 33, 34, 35, 36, 37, 38, 39, 40, 41, 42, 43, 44, 45, 46, 47, 48, 49, 50, 51, 52, 53, 54, 55, 56] (by decide +kernel) (by decide +kernel)
set_option maxRecDepth 20000 in
theorem gX1_waitOf_X1_placeOf : GoodIn wsX1_waitOf (wsV RX1 128 RX1 yX1_placeOf wsX1_placeOf) := goodIn_app (goodIn_of _ (by decide +kernel)) ggX1_waitOf_X1_placeOf
set_option maxRecDepth 20000 in
theorem ggX1_waitOf_X3_waitAt : GoodIn wsX1_waitOf wsX3_waitAt := goodIn_r _ [29, 30, 31, 52, 53, 54, 55, 56] (by decide +kernel) (by decide +kernel)
set_option maxRecDepth 20000 in
theorem gX1_waitOf_X3_waitAt : GoodIn wsX1_waitOf (wsV RX1 220 RX3 yX3_waitAt wsX3_waitAt) := goodIn_app (goodIn_of _ (by decide +kernel)) ggX1_waitOf_X3_waitAt
theorem dX1_waitOf_0 : decode cX1_waitOf 0 = .ok (.aload_n 0, 1) := by decide +kernel
theorem dX1_waitOf_1 : decode cX1_waitOf 1 = .ok (.aload_n 0, 1) := by decide +kernel
theorem dX1_waitOf_2 : decode cX1_waitOf 2 = .ok (.iload_n 1, 1) := by decide +kernel
theorem dX1_waitOf_3 : decode cX1_waitOf 3 = .ok (.invokevirtual 73, 3) := by decide +kernel
theorem dX1_waitOf_6 : decode cX1_waitOf 6 = .ok (.getfield 87, 3) := by decide +kernel
theorem dX1_waitOf_9 : decode cX1_waitOf 9 = .ok (.invokevirtual 65, 3) := by decide +kernel
theorem dX1_waitOf_12 : decode cX1_waitOf 12 = .ok (.aload_n 0, 1) := by decide +kernel
theorem dX1_waitOf_13 : decode cX1_waitOf 13 = .ok (.iload_n 1, 1) := by decide +kernel
theorem dX1_waitOf_14 : decode cX1_waitOf 14 = .ok (.invokevirtual 128, 3) := by decide +kernel
theorem dX1_waitOf_17 : decode cX1_waitOf 17 = .ok (.invokevirtual 220, 3) := by decide +kernel
theorem dX1_waitOf_20 : decode cX1_waitOf 20 = .ok (.ireturn, 1) := by decide +kernel
set_option maxRecDepth 20000 in
theorem ggX1_feesWithin_X1_stands : GoodIn wsX1_feesWithin wsX1_stands := goodIn_r _ [12, 13, 14, 15, 16, 11, 17, 1, 18, 19, 20, 21, 22, 23, 67, 68, 69, 70, 71, 72, 73, 74, 75, 56, 57, 58, 59, 60, 61, 62, 63, 64, 65, 66] (by decide +kernel) (by decide +kernel)
set_option maxRecDepth 20000 in
theorem gX1_feesWithin_X1_stands : GoodIn wsX1_feesWithin (wsV RX1 163 RX1 yX1_stands wsX1_stands) := goodIn_app (goodIn_of _ (by decide +kernel)) ggX1_feesWithin_X1_stands
set_option maxRecDepth 20000 in
theorem ggX1_feesWithin_X1_personOf : GoodIn wsX1_feesWithin wsX1_personOf := goodIn_r _ [21, 22, 23, 56, 57, 58, 59, 60, 61, 62, 63, 64, 65, 66] (by decide +kernel) (by decide +kernel)
set_option maxRecDepth 20000 in
theorem gX1_feesWithin_X1_personOf : GoodIn wsX1_feesWithin (wsV RX1 73 RX1 yX1_personOf wsX1_personOf) := goodIn_app (goodIn_of _ (by decide +kernel)) ggX1_feesWithin_X1_personOf
set_option maxRecDepth 20000 in
theorem ggX1_feesWithin_X1_waitOf : GoodIn wsX1_feesWithin wsX1_waitOf := goodIn_r _ [27, 28, 18, 19, 20, 11, 21, 22, 23, 29, 30, 31, 32, 33, 34, 35, 36, 37, 38, 39, 40, 41, 42, 43, 44, 45, 46, 47, 48, 49, 50, 51, 67, 68, 69, 70, 71, 72, 73, 74, 75, 56, 57, 58, 59, 60, 61, 62, 63, 64, 65, 66, 76, 77, 78, 79, 80] (by decide +kernel) (by decide +kernel)
set_option maxRecDepth 20000 in
theorem gX1_feesWithin_X1_waitOf : GoodIn wsX1_feesWithin (wsV RX1 223 RX1 yX1_waitOf wsX1_waitOf) := goodIn_app (goodIn_of _ (by decide +kernel)) ggX1_feesWithin_X1_waitOf
set_option maxRecDepth 20000 in
theorem ggX1_feesWithin_X1_feesUpTo : GoodIn wsX1_feesWithin wsX1_feesUpTo := goodIn_r _ [55, 7, 56, 57, 58, 59, 60, 61, 62, 63, 64, 65, 66] (by decide +kernel) (by decide +kernel)
set_option maxRecDepth 20000 in
theorem gX1_feesWithin_X1_feesUpTo : GoodIn wsX1_feesWithin (wsV RX1 226 RX1 yX1_feesUpTo wsX1_feesUpTo) := goodIn_app (goodIn_of _ (by decide +kernel)) ggX1_feesWithin_X1_feesUpTo
theorem dX1_feesWithin_0 : decode cX1_feesWithin 0 = .ok (.iconst 0, 1) := by decide +kernel
theorem dX1_feesWithin_1 : decode cX1_feesWithin 1 = .ok (.istore_n 2, 1) := by decide +kernel
theorem dX1_feesWithin_2 : decode cX1_feesWithin 2 = .ok (.iconst 0, 1) := by decide +kernel
theorem dX1_feesWithin_3 : decode cX1_feesWithin 3 = .ok (.istore_n 3, 1) := by decide +kernel
theorem dX1_feesWithin_4 : decode cX1_feesWithin 4 = .ok (.iload_n 3, 1) := by decide +kernel
theorem dX1_feesWithin_5 : decode cX1_feesWithin 5 = .ok (.aload_n 0, 1) := by decide +kernel
theorem dX1_feesWithin_6 : decode cX1_feesWithin 6 = .ok (.getfield 41, 3) := by decide +kernel
theorem dX1_feesWithin_9 : decode cX1_feesWithin 9 = .ok (.if_icmp .ge 59, 3) := by decide +kernel
theorem dX1_feesWithin_12 : decode cX1_feesWithin 12 = .ok (.aload_n 0, 1) := by decide +kernel
theorem dX1_feesWithin_13 : decode cX1_feesWithin 13 = .ok (.iload_n 3, 1) := by decide +kernel
theorem dX1_feesWithin_14 : decode cX1_feesWithin 14 = .ok (.invokevirtual 163, 3) := by decide +kernel
theorem dX1_feesWithin_17 : decode cX1_feesWithin 17 = .ok (.ifCond .eq 45, 3) := by decide +kernel
theorem dX1_feesWithin_20 : decode cX1_feesWithin 20 = .ok (.aload_n 0, 1) := by decide +kernel
theorem dX1_feesWithin_21 : decode cX1_feesWithin 21 = .ok (.iload_n 3, 1) := by decide +kernel
theorem dX1_feesWithin_22 : decode cX1_feesWithin 22 = .ok (.invokevirtual 73, 3) := by decide +kernel
theorem dX1_feesWithin_25 : decode cX1_feesWithin 25 = .ok (.getfield 122, 3) := by decide +kernel
theorem dX1_feesWithin_28 : decode cX1_feesWithin 28 = .ok (.istore 4, 2) := by decide +kernel
theorem dX1_feesWithin_30 : decode cX1_feesWithin 30 = .ok (.iload_n 1, 1) := by decide +kernel
theorem dX1_feesWithin_31 : decode cX1_feesWithin 31 = .ok (.aload_n 0, 1) := by decide +kernel
theorem dX1_feesWithin_32 : decode cX1_feesWithin 32 = .ok (.iload_n 3, 1) := by decide +kernel
theorem dX1_feesWithin_33 : decode cX1_feesWithin 33 = .ok (.invokevirtual 223, 3) := by decide +kernel
theorem dX1_feesWithin_36 : decode cX1_feesWithin 36 = .ok (.iconst 1, 1) := by decide +kernel
theorem dX1_feesWithin_37 : decode cX1_feesWithin 37 = .ok (.isub, 1) := by decide +kernel
theorem dX1_feesWithin_38 : decode cX1_feesWithin 38 = .ok (.invokestatic 188, 3) := by decide +kernel
theorem dX1_feesWithin_41 : decode cX1_feesWithin 41 = .ok (.istore 5, 2) := by decide +kernel
theorem dX1_feesWithin_43 : decode cX1_feesWithin 43 = .ok (.iload_n 2, 1) := by decide +kernel
theorem dX1_feesWithin_44 : decode cX1_feesWithin 44 = .ok (.aload_n 0, 1) := by decide +kernel
theorem dX1_feesWithin_45 : decode cX1_feesWithin 45 = .ok (.iload 4, 2) := by decide +kernel
theorem dX1_feesWithin_47 : decode cX1_feesWithin 47 = .ok (.iload 5, 2) := by decide +kernel
theorem dX1_feesWithin_49 : decode cX1_feesWithin 49 = .ok (.iadd, 1) := by decide +kernel
theorem dX1_feesWithin_50 : decode cX1_feesWithin 50 = .ok (.invokevirtual 226, 3) := by decide +kernel
theorem dX1_feesWithin_53 : decode cX1_feesWithin 53 = .ok (.aload_n 0, 1) := by decide +kernel
theorem dX1_feesWithin_54 : decode cX1_feesWithin 54 = .ok (.iload 4, 2) := by decide +kernel
theorem dX1_feesWithin_56 : decode cX1_feesWithin 56 = .ok (.invokevirtual 226, 3) := by decide +kernel
theorem dX1_feesWithin_59 : decode cX1_feesWithin 59 = .ok (.isub, 1) := by decide +kernel
theorem dX1_feesWithin_60 : decode cX1_feesWithin 60 = .ok (.iadd, 1) := by decide +kernel
theorem dX1_feesWithin_61 : decode cX1_feesWithin 61 = .ok (.istore_n 2, 1) := by decide +kernel
theorem dX1_feesWithin_62 : decode cX1_feesWithin 62 = .ok (.iinc 3 1, 3) := by decide +kernel
theorem dX1_feesWithin_65 : decode cX1_feesWithin 65 = .ok (.goto (-61), 3) := by decide +kernel
theorem dX1_feesWithin_68 : decode cX1_feesWithin 68 = .ok (.iload_n 2, 1) := by decide +kernel
theorem dX1_feesWithin_69 : decode cX1_feesWithin 69 = .ok (.aload_n 0, 1) := by decide +kernel
theorem dX1_feesWithin_70 : decode cX1_feesWithin 70 = .ok (.getfield 9, 3) := by decide +kernel
theorem dX1_feesWithin_73 : decode cX1_feesWithin 73 = .ok (.iconst 1, 1) := by decide +kernel
theorem dX1_feesWithin_74 : decode cX1_feesWithin 74 = .ok (.iaload, 1) := by decide +kernel
theorem dX1_feesWithin_75 : decode cX1_feesWithin 75 = .ok (.imul, 1) := by decide +kernel
theorem dX1_feesWithin_76 : decode cX1_feesWithin 76 = .ok (.ireturn, 1) := by decide +kernel
theorem dX1_feesUpTo_0 : decode cX1_feesUpTo 0 = .ok (.iload_n 1, 1) := by decide +kernel
theorem dX1_feesUpTo_1 : decode cX1_feesUpTo 1 = .ok (.aload_n 0, 1) := by decide +kernel
theorem dX1_feesUpTo_2 : decode cX1_feesUpTo 2 = .ok (.getfield 9, 3) := by decide +kernel
theorem dX1_feesUpTo_5 : decode cX1_feesUpTo 5 = .ok (.iconst 0, 1) := by decide +kernel
theorem dX1_feesUpTo_6 : decode cX1_feesUpTo 6 = .ok (.iaload, 1) := by decide +kernel
theorem dX1_feesUpTo_7 : decode cX1_feesUpTo 7 = .ok (.isub, 1) := by decide +kernel
theorem dX1_feesUpTo_8 : decode cX1_feesUpTo 8 = .ok (.istore_n 2, 1) := by decide +kernel
theorem dX1_feesUpTo_9 : decode cX1_feesUpTo 9 = .ok (.iload_n 2, 1) := by decide +kernel
theorem dX1_feesUpTo_10 : decode cX1_feesUpTo 10 = .ok (.ifCond .ge 7, 3) := by decide +kernel
theorem dX1_feesUpTo_13 : decode cX1_feesUpTo 13 = .ok (.iconst 0, 1) := by decide +kernel
theorem dX1_feesUpTo_14 : decode cX1_feesUpTo 14 = .ok (.goto 9, 3) := by decide +kernel
theorem dX1_feesUpTo_17 : decode cX1_feesUpTo 17 = .ok (.iload_n 2, 1) := by decide +kernel
theorem dX1_feesUpTo_18 : decode cX1_feesUpTo 18 = .ok (.bipush 10, 2) := by decide +kernel
theorem dX1_feesUpTo_20 : decode cX1_feesUpTo 20 = .ok (.idiv, 1) := by decide +kernel
theorem dX1_feesUpTo_21 : decode cX1_feesUpTo 21 = .ok (.iconst 1, 1) := by decide +kernel
theorem dX1_feesUpTo_22 : decode cX1_feesUpTo 22 = .ok (.iadd, 1) := by decide +kernel
theorem dX1_feesUpTo_23 : decode cX1_feesUpTo 23 = .ok (.ireturn, 1) := by decide +kernel
set_option maxRecDepth 20000 in
theorem ggX1_profit_X1_personOf : GoodIn wsX1_profit wsX1_personOf := goodIn_r _ [6, 7, 8, 46, 47, 48, 49, 50, 51, 52, 53, 54, 55, 56] (by decide +kernel) (by decide +kernel)
set_option maxRecDepth 20000 in
theorem gX1_profit_X1_personOf : GoodIn wsX1_profit (wsV RX1 73 RX1 yX1_personOf wsX1_personOf) := goodIn_app (goodIn_of _ (by decide +kernel)) ggX1_profit_X1_personOf
set_option maxRecDepth 20000 in
theorem ggX1_profit_X1_lineOf : GoodIn wsX1_profit wsX1_lineOf := goodIn_r _ [12, 13, 14, 46, 47, 48, 49, 50, 51, 52, 53, 54, 55, 56] (by decide +kernel) (by decide +kernel)
set_option maxRecDepth 20000 in
theorem gX1_profit_X1_lineOf : GoodIn wsX1_profit (wsV RX1 65 RX1 yX1_lineOf wsX1_lineOf) := goodIn_app (goodIn_of _ (by decide +kernel)) ggX1_profit_X1_lineOf
set_option maxRecDepth 20000 in
theorem ggX1_profit_X1_placeOf : GoodIn wsX1_profit wsX1_placeOf := goodIn_r _ [18, 1, 2, 3, 4, 5, 6, 7, 8, 9, 10, 11, 12, 13, 14, 19, 20, 21, 22, 23, 24, 25, 37, 38, 39, 40, 41, 42, 43, 44, 45, 46, 47, 48, 49, 50, 51, 52, 53, 54, 55, 56, 57, 58, 59, 60, 61] (by decide +kernel) (by decide +kernel)
set_option maxRecDepth 20000 in
theorem gX1_profit_X1_placeOf : GoodIn wsX1_profit (wsV RX1 128 RX1 yX1_placeOf wsX1_placeOf) := goodIn_app (goodIn_of _ (by decide +kernel)) ggX1_profit_X1_placeOf
