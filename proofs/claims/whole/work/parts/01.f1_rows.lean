theorem dX6_read_86 : decode cX6_read 86 = .ok (.aload_n 0, 1) := by decide +kernel
theorem dX6_read_87 : decode cX6_read 87 = .ok (.getfield 93, 3) := by decide +kernel
theorem dX6_read_90 : decode cX6_read 90 = .ok (.ifCond .ne 34, 3) := by decide +kernel
theorem dX6_read_93 : decode cX6_read 93 = .ok (.aload_n 0, 1) := by decide +kernel
theorem dX6_read_94 : decode cX6_read 94 = .ok (.invokevirtual 136, 3) := by decide +kernel
theorem dX6_read_97 : decode cX6_read 97 = .ok (.istore 4, 2) := by decide +kernel
theorem dX6_read_99 : decode cX6_read 99 = .ok (.iload_n 1, 1) := by decide +kernel
theorem dX6_read_100 : decode cX6_read 100 = .ok (.ifCond .eq 18, 3) := by decide +kernel
theorem dX6_read_103 : decode cX6_read 103 = .ok (.aload_n 0, 1) := by decide +kernel
theorem dX6_read_104 : decode cX6_read 104 = .ok (.getfield 93, 3) := by decide +kernel
theorem dX6_read_107 : decode cX6_read 107 = .ok (.ifCond .ne 11, 3) := by decide +kernel
theorem dX6_read_110 : decode cX6_read 110 = .ok (.aload_n 0, 1) := by decide +kernel
theorem dX6_read_111 : decode cX6_read 111 = .ok (.iload 4, 2) := by decide +kernel
theorem dX6_read_113 : decode cX6_read 113 = .ok (.invokevirtual 33, 3) := by decide +kernel
theorem dX6_read_116 : decode cX6_read 116 = .ok (.istore 5, 2) := by decide +kernel
theorem dX6_read_118 : decode cX6_read 118 = .ok (.iinc 3 1, 3) := by decide +kernel
theorem dX6_read_121 : decode cX6_read 121 = .ok (.goto (-40), 3) := by decide +kernel
theorem dX6_read_124 : decode cX6_read 124 = .ok (.aload_n 0, 1) := by decide +kernel
theorem dX6_read_125 : decode cX6_read 125 = .ok (.getfield 93, 3) := by decide +kernel
theorem dX6_read_128 : decode cX6_read 128 = .ok (.ifCond .ne 22, 3) := by decide +kernel
theorem dX6_read_131 : decode cX6_read 131 = .ok (.aload_n 0, 1) := by decide +kernel
theorem dX6_read_132 : decode cX6_read 132 = .ok (.getfield 90, 3) := by decide +kernel
theorem dX6_read_135 : decode cX6_read 135 = .ok (.aload_n 0, 1) := by decide +kernel
theorem dX6_read_136 : decode cX6_read 136 = .ok (.getfield 84, 3) := by decide +kernel
theorem dX6_read_139 : decode cX6_read 139 = .ok (.if_icmp .ge 11, 3) := by decide +kernel
theorem dX6_read_142 : decode cX6_read 142 = .ok (.aload_n 0, 1) := by decide +kernel
theorem dX6_read_143 : decode cX6_read 143 = .ok (.iload_n 1, 1) := by decide +kernel
theorem dX6_read_144 : decode cX6_read 144 = .ok (.invokevirtual 139, 3) := by decide +kernel
theorem dX6_read_147 : decode cX6_read 147 = .ok (.goto (-23), 3) := by decide +kernel
theorem dX6_read_150 : decode cX6_read 150 = .ok (.return_, 1) := by decide +kernel
set_option maxRecDepth 20000 in
theorem ggX6_errorPosition_X6_read : GoodIn wsX6_errorPosition wsX6_read := goodIn_r _ [8, 3, 9, 10, 11, 2, 12, 13, 14, 7, 15, 16, 17, 18, 19, 20, 21, 22, 23, 24, 25, 26, 27, 28, 29, 30, 31, 32, 33, 34, 35, 36, 37, 38, 39, 40, 41, 42, 43, 44, 45, 46, 47, 48, 49, 50, 51, 52, 53, 54, 55, 56, 57, 58, 59, 60, 61, 62, 63, 64, 65, 66, 67, 68, 69, 70, 71, 72, 73, 74, 75, 76, 77, 78, 79, 80, 81, 82, 83, 84, 85, 86, 87, 88, 89, 90, 91, 92, 93, 94, 95, 96, 97, 98, 99, 100, 101, 102, 103, 104, 105, 106, 107, 108, 109, 110, 111, 112, 113, 114, 115, 116, 117, 118, 119, 120, 121, 122, 123, 124, 125] (by decide +kernel) (by decide +kernel)
set_option maxRecDepth 20000 in
theorem gX6_errorPosition_X6_read : GoodIn wsX6_errorPosition (wsV RX6 143 RX6 yX6_read wsX6_read) := goodIn_app (goodIn_of _ (by decide +kernel)) ggX6_errorPosition_X6_read
theorem dX6_errorPosition_0 : decode cX6_errorPosition 0 = .ok (.aload_n 0, 1) := by decide +kernel
theorem dX6_errorPosition_1 : decode cX6_errorPosition 1 = .ok (.iconst 0, 1) := by decide +kernel
theorem dX6_errorPosition_2 : decode cX6_errorPosition 2 = .ok (.putfield 37, 3) := by decide +kernel
theorem dX6_errorPosition_5 : decode cX6_errorPosition 5 = .ok (.aload_n 0, 1) := by decide +kernel
theorem dX6_errorPosition_6 : decode cX6_errorPosition 6 = .ok (.iconst 0, 1) := by decide +kernel
theorem dX6_errorPosition_7 : decode cX6_errorPosition 7 = .ok (.invokevirtual 143, 3) := by decide +kernel
theorem dX6_errorPosition_10 : decode cX6_errorPosition 10 = .ok (.aload_n 0, 1) := by decide +kernel
theorem dX6_errorPosition_11 : decode cX6_errorPosition 11 = .ok (.getfield 93, 3) := by decide +kernel
theorem dX6_errorPosition_14 : decode cX6_errorPosition 14 = .ok (.ifCond .eq 10, 3) := by decide +kernel
theorem dX6_errorPosition_17 : decode cX6_errorPosition 17 = .ok (.aload_n 0, 1) := by decide +kernel
theorem dX6_errorPosition_18 : decode cX6_errorPosition 18 = .ok (.getfield 90, 3) := by decide +kernel
theorem dX6_errorPosition_21 : decode cX6_errorPosition 21 = .ok (.goto 4, 3) := by decide +kernel
theorem dX6_errorPosition_24 : decode cX6_errorPosition 24 = .ok (.iconst (-1), 1) := by decide +kernel
theorem dX6_errorPosition_25 : decode cX6_errorPosition 25 = .ok (.ireturn, 1) := by decide +kernel
set_option maxRecDepth 20000 in
theorem ggX6_load_X6_read : GoodIn wsX6_load wsX6_read := goodIn_r _ [7, 8, 2, 9, 10, 1, 11, 12, 13, 6, 14, 15, 16, 17, 18, 19, 20, 21, 22, 23, 24, 25, 26, 27, 28, 29, 30, 31, 32, 33, 34, 35, 36, 37, 38, 39, 40, 41, 42, 43, 44, 45, 46, 47, 48, 49, 50, 51, 52, 53, 54, 55, 56, 57, 58, 59, 60, 61, 62, 63, 64, 65, 66, 67, 68, 69, 70, 71, 72, 73, 74, 75, 76, 77, 78, 79, 80, 81, 82, 83, 84, 85, 86, 87, 88, 89, 90, 91, 92, 93, 94, 95, 96, 97, 98, 99, 100, 101, 102, 103, 104, 105, 106, 107, 108, 109, 110, 111, 117, 118, 119, 120, 121, 122, 123, 124, 125, 126, 127, 128, 129] (by decide +kernel) (by decide +kernel)
set_option maxRecDepth 20000 in
theorem gX6_load_X6_read : GoodIn wsX6_load (wsV RX6 143 RX6 yX6_read wsX6_read) := goodIn_app (goodIn_of _ (by decide +kernel)) ggX6_load_X6_read
set_option maxRecDepth 20000 in
theorem ggX6_load_X6_holds : GoodIn wsX6_load wsX6_holds := goodIn_r _ [115, 116, 117, 118, 119, 120, 121, 122, 123, 124, 125, 126, 127, 128, 129] (by decide +kernel) (by decide +kernel)
set_option maxRecDepth 20000 in
theorem gX6_load_X6_holds : GoodIn wsX6_load (wsV RX6 87 RX6 yX6_holds wsX6_holds) := goodIn_app (goodIn_of _ (by decide +kernel)) ggX6_load_X6_holds
theorem dX6_load_0 : decode cX6_load 0 = .ok (.aload_n 0, 1) := by decide +kernel
theorem dX6_load_1 : decode cX6_load 1 = .ok (.iconst 0, 1) := by decide +kernel
theorem dX6_load_2 : decode cX6_load 2 = .ok (.invokevirtual 143, 3) := by decide +kernel
theorem dX6_load_5 : decode cX6_load 5 = .ok (.aload_n 0, 1) := by decide +kernel
theorem dX6_load_6 : decode cX6_load 6 = .ok (.aload_n 0, 1) := by decide +kernel
theorem dX6_load_7 : decode cX6_load 7 = .ok (.getfield 93, 3) := by decide +kernel
theorem dX6_load_10 : decode cX6_load 10 = .ok (.ifCond .eq 7, 3) := by decide +kernel
theorem dX6_load_13 : decode cX6_load 13 = .ok (.iconst 1, 1) := by decide +kernel
theorem dX6_load_14 : decode cX6_load 14 = .ok (.goto 4, 3) := by decide +kernel
theorem dX6_load_17 : decode cX6_load 17 = .ok (.iconst 0, 1) := by decide +kernel
theorem dX6_load_18 : decode cX6_load 18 = .ok (.invokevirtual 87, 3) := by decide +kernel
theorem dX6_load_21 : decode cX6_load 21 = .ok (.ifCond .ne 5, 3) := by decide +kernel
theorem dX6_load_24 : decode cX6_load 24 = .ok (.iconst 0, 1) := by decide +kernel
theorem dX6_load_25 : decode cX6_load 25 = .ok (.ireturn, 1) := by decide +kernel
theorem dX6_load_26 : decode cX6_load 26 = .ok (.aload_n 0, 1) := by decide +kernel
theorem dX6_load_27 : decode cX6_load 27 = .ok (.iconst 1, 1) := by decide +kernel
theorem dX6_load_28 : decode cX6_load 28 = .ok (.invokevirtual 143, 3) := by decide +kernel
theorem dX6_load_31 : decode cX6_load 31 = .ok (.aload_n 0, 1) := by decide +kernel
theorem dX6_load_32 : decode cX6_load 32 = .ok (.getfield 103, 3) := by decide +kernel
theorem dX6_load_35 : decode cX6_load 35 = .ok (.ireturn, 1) := by decide +kernel
set_option maxRecDepth 20000 in
theorem ggX6_standing_X6_of : GoodIn wsX6_standing wsX6_of := goodIn_r _ [5] (by decide +kernel) (by decide +kernel)
set_option maxRecDepth 20000 in
theorem gX6_standing_X6_of : GoodIn wsX6_standing (va_wsS RX6 51 yX6_of wsX6_of) := goodIn_app (goodIn_of _ (by decide +kernel)) ggX6_standing_X6_of
theorem dX6_standing_0 : decode cX6_standing 0 = .ok (.iconst 0, 1) := by decide +kernel
theorem dX6_standing_1 : decode cX6_standing 1 = .ok (.istore_n 2, 1) := by decide +kernel
theorem dX6_standing_2 : decode cX6_standing 2 = .ok (.iconst 0, 1) := by decide +kernel
theorem dX6_standing_3 : decode cX6_standing 3 = .ok (.istore_n 3, 1) := by decide +kernel
theorem dX6_standing_4 : decode cX6_standing 4 = .ok (.iload_n 3, 1) := by decide +kernel
theorem dX6_standing_5 : decode cX6_standing 5 = .ok (.aload_n 0, 1) := by decide +kernel
theorem dX6_standing_6 : decode cX6_standing 6 = .ok (.getfield 7, 3) := by decide +kernel
theorem dX6_standing_9 : decode cX6_standing 9 = .ok (.iconst 2, 1) := by decide +kernel
theorem dX6_standing_10 : decode cX6_standing 10 = .ok (.iaload, 1) := by decide +kernel
theorem dX6_standing_11 : decode cX6_standing 11 = .ok (.if_icmp .ge 31, 3) := by decide +kernel
theorem dX6_standing_14 : decode cX6_standing 14 = .ok (.iload_n 2, 1) := by decide +kernel
theorem dX6_standing_15 : decode cX6_standing 15 = .ok (.aload_n 0, 1) := by decide +kernel
theorem dX6_standing_16 : decode cX6_standing 16 = .ok (.getfield 7, 3) := by decide +kernel
theorem dX6_standing_19 : decode cX6_standing 19 = .ok (.iload_n 3, 1) := by decide +kernel
theorem dX6_standing_20 : decode cX6_standing 20 = .ok (.iconst 5, 1) := by decide +kernel
theorem dX6_standing_21 : decode cX6_standing 21 = .ok (.invokestatic 51, 3) := by decide +kernel
theorem dX6_standing_24 : decode cX6_standing 24 = .ok (.iaload, 1) := by decide +kernel
theorem dX6_standing_25 : decode cX6_standing 25 = .ok (.iload_n 1, 1) := by decide +kernel
theorem dX6_standing_26 : decode cX6_standing 26 = .ok (.if_icmp .ne 7, 3) := by decide +kernel
theorem dX6_standing_29 : decode cX6_standing 29 = .ok (.iconst 1, 1) := by decide +kernel
theorem dX6_standing_30 : decode cX6_standing 30 = .ok (.goto 4, 3) := by decide +kernel
theorem dX6_standing_33 : decode cX6_standing 33 = .ok (.iconst 0, 1) := by decide +kernel
theorem dX6_standing_34 : decode cX6_standing 34 = .ok (.iadd, 1) := by decide +kernel
theorem dX6_standing_35 : decode cX6_standing 35 = .ok (.istore_n 2, 1) := by decide +kernel
theorem dX6_standing_36 : decode cX6_standing 36 = .ok (.iinc 3 1, 3) := by decide +kernel
theorem dX6_standing_39 : decode cX6_standing 39 = .ok (.goto (-35), 3) := by decide +kernel
theorem dX6_standing_42 : decode cX6_standing 42 = .ok (.iload_n 2, 1) := by decide +kernel
theorem dX6_standing_43 : decode cX6_standing 43 = .ok (.ireturn, 1) := by decide +kernel
set_option maxRecDepth 20000 in
theorem ggX6_accounts_X6_of : GoodIn wsX6_accounts wsX6_of := goodIn_r _ [5] (by decide +kernel) (by decide +kernel)
set_option maxRecDepth 20000 in
theorem gX6_accounts_X6_of : GoodIn wsX6_accounts (va_wsS RX6 51 yX6_of wsX6_of) := goodIn_app (goodIn_of _ (by decide +kernel)) ggX6_accounts_X6_of
theorem dX6_accounts_0 : decode cX6_accounts 0 = .ok (.iconst 0, 1) := by decide +kernel
theorem dX6_accounts_1 : decode cX6_accounts 1 = .ok (.istore_n 1, 1) := by decide +kernel
theorem dX6_accounts_2 : decode cX6_accounts 2 = .ok (.iconst 0, 1) := by decide +kernel
theorem dX6_accounts_3 : decode cX6_accounts 3 = .ok (.istore_n 2, 1) := by decide +kernel
theorem dX6_accounts_4 : decode cX6_accounts 4 = .ok (.iload_n 2, 1) := by decide +kernel
theorem dX6_accounts_5 : decode cX6_accounts 5 = .ok (.aload_n 0, 1) := by decide +kernel
theorem dX6_accounts_6 : decode cX6_accounts 6 = .ok (.getfield 7, 3) := by decide +kernel
theorem dX6_accounts_9 : decode cX6_accounts 9 = .ok (.iconst 2, 1) := by decide +kernel
theorem dX6_accounts_10 : decode cX6_accounts 10 = .ok (.iaload, 1) := by decide +kernel
theorem dX6_accounts_11 : decode cX6_accounts 11 = .ok (.if_icmp .ge 22, 3) := by decide +kernel
theorem dX6_accounts_14 : decode cX6_accounts 14 = .ok (.iload_n 1, 1) := by decide +kernel
theorem dX6_accounts_15 : decode cX6_accounts 15 = .ok (.aload_n 0, 1) := by decide +kernel
theorem dX6_accounts_16 : decode cX6_accounts 16 = .ok (.getfield 7, 3) := by decide +kernel
theorem dX6_accounts_19 : decode cX6_accounts 19 = .ok (.iload_n 2, 1) := by decide +kernel
theorem dX6_accounts_20 : decode cX6_accounts 20 = .ok (.iconst 3, 1) := by decide +kernel
theorem dX6_accounts_21 : decode cX6_accounts 21 = .ok (.invokestatic 51, 3) := by decide +kernel
theorem dX6_accounts_24 : decode cX6_accounts 24 = .ok (.iaload, 1) := by decide +kernel
theorem dX6_accounts_25 : decode cX6_accounts 25 = .ok (.iadd, 1) := by decide +kernel
theorem dX6_accounts_26 : decode cX6_accounts 26 = .ok (.istore_n 1, 1) := by decide +kernel
theorem dX6_accounts_27 : decode cX6_accounts 27 = .ok (.iinc 2 1, 3) := by decide +kernel
theorem dX6_accounts_30 : decode cX6_accounts 30 = .ok (.goto (-26), 3) := by decide +kernel
theorem dX6_accounts_33 : decode cX6_accounts 33 = .ok (.iload_n 1, 1) := by decide +kernel
theorem dX6_accounts_34 : decode cX6_accounts 34 = .ok (.ireturn, 1) := by decide +kernel
set_option maxRecDepth 20000 in
theorem ggX6_about_X6_in : GoodIn wsX6_about wsX6_in := goodIn_r _ [5] (by decide +kernel) (by decide +kernel)
set_option maxRecDepth 20000 in
theorem gX6_about_X6_in : GoodIn wsX6_about (va_wsS RX6 47 yX6_in wsX6_in) := goodIn_app (goodIn_of _ (by decide +kernel)) ggX6_about_X6_in
set_option maxRecDepth 20000 in
theorem ggX6_about_X6_holds : GoodIn wsX6_about wsX6_holds := goodIn_r _ [9, 10, 22, 23, 24, 25, 26, 27, 28, 29, 30, 31, 32, 33, 34] (by decide +kernel) (by decide +kernel)
set_option maxRecDepth 20000 in
theorem gX6_about_X6_holds : GoodIn wsX6_about (wsV RX6 87 RX6 yX6_holds wsX6_holds) := goodIn_app (goodIn_of _ (by decide +kernel)) ggX6_about_X6_holds
set_option maxRecDepth 20000 in
theorem ggX6_about_X6_standing : GoodIn wsX6_about wsX6_standing := goodIn_r _ [14, 1, 15, 16, 4, 17, 22, 23, 24, 25, 26, 27, 28, 29, 30, 31, 32, 33, 34] (by decide +kernel) (by decide +kernel)
set_option maxRecDepth 20000 in
theorem gX6_about_X6_standing : GoodIn wsX6_about (wsV RX6 146 RX6 yX6_standing wsX6_standing) := goodIn_app (goodIn_of _ (by decide +kernel)) ggX6_about_X6_standing
set_option maxRecDepth 20000 in
theorem ggX6_about_X6_accounts : GoodIn wsX6_about wsX6_accounts := goodIn_r _ [21, 1, 15, 16, 4, 17, 22, 23, 24, 25, 26, 27, 28, 29, 30, 31, 32, 33, 34] (by decide +kernel) (by decide +kernel)
set_option maxRecDepth 20000 in
theorem gX6_about_X6_accounts : GoodIn wsX6_about (wsV RX6 149 RX6 yX6_accounts wsX6_accounts) := goodIn_app (goodIn_of _ (by decide +kernel)) ggX6_about_X6_accounts
theorem dX6_about_0 : decode cX6_about 0 = .ok (.aload_n 0, 1) := by decide +kernel
theorem dX6_about_1 : decode cX6_about 1 = .ok (.iload_n 1, 1) := by decide +kernel
theorem dX6_about_2 : decode cX6_about 2 = .ok (.iconst 0, 1) := by decide +kernel
theorem dX6_about_3 : decode cX6_about 3 = .ok (.bipush 9, 2) := by decide +kernel
theorem dX6_about_5 : decode cX6_about 5 = .ok (.invokestatic 47, 3) := by decide +kernel
theorem dX6_about_8 : decode cX6_about 8 = .ok (.ifCond .eq 7, 3) := by decide +kernel
theorem dX6_about_11 : decode cX6_about 11 = .ok (.iconst 0, 1) := by decide +kernel
theorem dX6_about_12 : decode cX6_about 12 = .ok (.goto 4, 3) := by decide +kernel
theorem dX6_about_15 : decode cX6_about 15 = .ok (.iconst 1, 1) := by decide +kernel
theorem dX6_about_16 : decode cX6_about 16 = .ok (.invokevirtual 87, 3) := by decide +kernel
theorem dX6_about_19 : decode cX6_about 19 = .ok (.ifCond .ne 5, 3) := by decide +kernel
theorem dX6_about_22 : decode cX6_about 22 = .ok (.iconst 0, 1) := by decide +kernel
theorem dX6_about_23 : decode cX6_about 23 = .ok (.ireturn, 1) := by decide +kernel
theorem dX6_about_24 : decode cX6_about 24 = .ok (.iload_n 1, 1) := by decide +kernel
theorem dX6_about_25 : decode cX6_about 25 = .ok (.tableswitch 75 0 8 #[51, 51, 51, 58, 58, 58, 66, 66, 66], 51) := by decide +kernel
theorem dX6_about_76 : decode cX6_about 76 = .ok (.aload_n 0, 1) := by decide +kernel
theorem dX6_about_77 : decode cX6_about 77 = .ok (.getfield 7, 3) := by decide +kernel
theorem dX6_about_80 : decode cX6_about 80 = .ok (.iload_n 1, 1) := by decide +kernel
theorem dX6_about_81 : decode cX6_about 81 = .ok (.iaload, 1) := by decide +kernel
theorem dX6_about_82 : decode cX6_about 82 = .ok (.ireturn, 1) := by decide +kernel
theorem dX6_about_83 : decode cX6_about 83 = .ok (.aload_n 0, 1) := by decide +kernel
theorem dX6_about_84 : decode cX6_about 84 = .ok (.iload_n 1, 1) := by decide +kernel
theorem dX6_about_85 : decode cX6_about 85 = .ok (.iconst 3, 1) := by decide +kernel
theorem dX6_about_86 : decode cX6_about 86 = .ok (.isub, 1) := by decide +kernel
theorem dX6_about_87 : decode cX6_about 87 = .ok (.invokevirtual 146, 3) := by decide +kernel
theorem dX6_about_90 : decode cX6_about 90 = .ok (.ireturn, 1) := by decide +kernel
theorem dX6_about_91 : decode cX6_about 91 = .ok (.aload_n 0, 1) := by decide +kernel
theorem dX6_about_92 : decode cX6_about 92 = .ok (.getfield 7, 3) := by decide +kernel
theorem dX6_about_95 : decode cX6_about 95 = .ok (.iload_n 1, 1) := by decide +kernel
theorem dX6_about_96 : decode cX6_about 96 = .ok (.iconst 3, 1) := by decide +kernel
theorem dX6_about_97 : decode cX6_about 97 = .ok (.isub, 1) := by decide +kernel
theorem dX6_about_98 : decode cX6_about 98 = .ok (.iaload, 1) := by decide +kernel
theorem dX6_about_99 : decode cX6_about 99 = .ok (.ireturn, 1) := by decide +kernel
theorem dX6_about_100 : decode cX6_about 100 = .ok (.aload_n 0, 1) := by decide +kernel
theorem dX6_about_101 : decode cX6_about 101 = .ok (.invokevirtual 149, 3) := by decide +kernel
theorem dX6_about_104 : decode cX6_about 104 = .ok (.ireturn, 1) := by decide +kernel
set_option maxRecDepth 20000 in
theorem ggX6_stoodIn_X6_of : GoodIn wsX6_stoodIn wsX6_of := goodIn_r _ [5] (by decide +kernel) (by decide +kernel)
set_option maxRecDepth 20000 in
theorem gX6_stoodIn_X6_of : GoodIn wsX6_stoodIn (va_wsS RX6 51 yX6_of wsX6_of) := goodIn_app (goodIn_of _ (by decide +kernel)) ggX6_stoodIn_X6_of
theorem dX6_stoodIn_0 : decode cX6_stoodIn 0 = .ok (.iconst 0, 1) := by decide +kernel
theorem dX6_stoodIn_1 : decode cX6_stoodIn 1 = .ok (.istore_n 2, 1) := by decide +kernel
theorem dX6_stoodIn_2 : decode cX6_stoodIn 2 = .ok (.iconst 0, 1) := by decide +kernel
theorem dX6_stoodIn_3 : decode cX6_stoodIn 3 = .ok (.istore_n 3, 1) := by decide +kernel
theorem dX6_stoodIn_4 : decode cX6_stoodIn 4 = .ok (.iload_n 3, 1) := by decide +kernel
theorem dX6_stoodIn_5 : decode cX6_stoodIn 5 = .ok (.aload_n 0, 1) := by decide +kernel
theorem dX6_stoodIn_6 : decode cX6_stoodIn 6 = .ok (.getfield 7, 3) := by decide +kernel
theorem dX6_stoodIn_9 : decode cX6_stoodIn 9 = .ok (.bipush 13, 2) := by decide +kernel
theorem dX6_stoodIn_11 : decode cX6_stoodIn 11 = .ok (.iload_n 1, 1) := by decide +kernel
theorem dX6_stoodIn_12 : decode cX6_stoodIn 12 = .ok (.iadd, 1) := by decide +kernel
theorem dX6_stoodIn_13 : decode cX6_stoodIn 13 = .ok (.iaload, 1) := by decide +kernel
theorem dX6_stoodIn_14 : decode cX6_stoodIn 14 = .ok (.if_icmp .ge 35, 3) := by decide +kernel
theorem dX6_stoodIn_17 : decode cX6_stoodIn 17 = .ok (.iload_n 2, 1) := by decide +kernel
theorem dX6_stoodIn_18 : decode cX6_stoodIn 18 = .ok (.aload_n 0, 1) := by decide +kernel
theorem dX6_stoodIn_19 : decode cX6_stoodIn 19 = .ok (.getfield 7, 3) := by decide +kernel
theorem dX6_stoodIn_22 : decode cX6_stoodIn 22 = .ok (.aload_n 0, 1) := by decide +kernel
theorem dX6_stoodIn_23 : decode cX6_stoodIn 23 = .ok (.getfield 7, 3) := by decide +kernel
theorem dX6_stoodIn_26 : decode cX6_stoodIn 26 = .ok (.bipush 22, 2) := by decide +kernel
theorem dX6_stoodIn_28 : decode cX6_stoodIn 28 = .ok (.bipush 12, 2) := by decide +kernel
theorem dX6_stoodIn_30 : decode cX6_stoodIn 30 = .ok (.iload_n 1, 1) := by decide +kernel
theorem dX6_stoodIn_31 : decode cX6_stoodIn 31 = .ok (.imul, 1) := by decide +kernel
theorem dX6_stoodIn_32 : decode cX6_stoodIn 32 = .ok (.iadd, 1) := by decide +kernel
theorem dX6_stoodIn_33 : decode cX6_stoodIn 33 = .ok (.iload_n 3, 1) := by decide +kernel
theorem dX6_stoodIn_34 : decode cX6_stoodIn 34 = .ok (.iadd, 1) := by decide +kernel
theorem dX6_stoodIn_35 : decode cX6_stoodIn 35 = .ok (.iaload, 1) := by decide +kernel
theorem dX6_stoodIn_36 : decode cX6_stoodIn 36 = .ok (.iconst 2, 1) := by decide +kernel
theorem dX6_stoodIn_37 : decode cX6_stoodIn 37 = .ok (.invokestatic 51, 3) := by decide +kernel
theorem dX6_stoodIn_40 : decode cX6_stoodIn 40 = .ok (.iaload, 1) := by decide +kernel
theorem dX6_stoodIn_41 : decode cX6_stoodIn 41 = .ok (.iadd, 1) := by decide +kernel
theorem dX6_stoodIn_42 : decode cX6_stoodIn 42 = .ok (.istore_n 2, 1) := by decide +kernel
theorem dX6_stoodIn_43 : decode cX6_stoodIn 43 = .ok (.iinc 3 1, 3) := by decide +kernel
theorem dX6_stoodIn_46 : decode cX6_stoodIn 46 = .ok (.goto (-42), 3) := by decide +kernel
theorem dX6_stoodIn_49 : decode cX6_stoodIn 49 = .ok (.iload_n 2, 1) := by decide +kernel
theorem dX6_stoodIn_50 : decode cX6_stoodIn 50 = .ok (.ireturn, 1) := by decide +kernel
set_option maxRecDepth 20000 in
theorem ggX6_line_X6_isLine : GoodIn wsX6_line wsX6_isLine := goodIn_r _ [6, 1, 7, 8, 5, 9, 22, 23, 24, 25, 26, 27, 28, 29, 30, 31, 32, 33, 34] (by decide +kernel) (by decide +kernel)
set_option maxRecDepth 20000 in
theorem gX6_line_X6_isLine : GoodIn wsX6_line (wsV RX6 55 RX6 yX6_isLine wsX6_isLine) := goodIn_app (goodIn_of _ (by decide +kernel)) ggX6_line_X6_isLine
set_option maxRecDepth 20000 in
theorem ggX6_line_X6_in : GoodIn wsX6_line wsX6_in := goodIn_r _ [9] (by decide +kernel) (by decide +kernel)
set_option maxRecDepth 20000 in
theorem gX6_line_X6_in : GoodIn wsX6_line (va_wsS RX6 47 yX6_in wsX6_in) := goodIn_app (goodIn_of _ (by decide +kernel)) ggX6_line_X6_in
set_option maxRecDepth 20000 in
theorem ggX6_line_X6_holds : GoodIn wsX6_line wsX6_holds := goodIn_r _ [13, 14, 22, 23, 24, 25, 26, 27, 28, 29, 30, 31, 32, 33, 34] (by decide +kernel) (by decide +kernel)
set_option maxRecDepth 20000 in
theorem gX6_line_X6_holds : GoodIn wsX6_line (wsV RX6 87 RX6 yX6_holds wsX6_holds) := goodIn_app (goodIn_of _ (by decide +kernel)) ggX6_line_X6_holds
set_option maxRecDepth 20000 in
theorem ggX6_line_X6_stoodIn : GoodIn wsX6_line wsX6_stoodIn := goodIn_r _ [18, 1, 19, 20, 5, 21, 22, 23, 24, 25, 26, 27, 28, 29, 30, 31, 32, 33, 34] (by decide +kernel) (by decide +kernel)
set_option maxRecDepth 20000 in
theorem gX6_line_X6_stoodIn : GoodIn wsX6_line (wsV RX6 152 RX6 yX6_stoodIn wsX6_stoodIn) := goodIn_app (goodIn_of _ (by decide +kernel)) ggX6_line_X6_stoodIn
theorem dX6_line_0 : decode cX6_line 0 = .ok (.aload_n 0, 1) := by decide +kernel
theorem dX6_line_1 : decode cX6_line 1 = .ok (.aload_n 0, 1) := by decide +kernel
theorem dX6_line_2 : decode cX6_line 2 = .ok (.iload_n 1, 1) := by decide +kernel
theorem dX6_line_3 : decode cX6_line 3 = .ok (.invokevirtual 55, 3) := by decide +kernel
theorem dX6_line_6 : decode cX6_line 6 = .ok (.ifCond .ne 7, 3) := by decide +kernel
theorem dX6_line_9 : decode cX6_line 9 = .ok (.iconst 1, 1) := by decide +kernel
theorem dX6_line_10 : decode cX6_line 10 = .ok (.goto 17, 3) := by decide +kernel
theorem dX6_line_13 : decode cX6_line 13 = .ok (.iload_n 2, 1) := by decide +kernel
theorem dX6_line_14 : decode cX6_line 14 = .ok (.iconst 0, 1) := by decide +kernel
theorem dX6_line_15 : decode cX6_line 15 = .ok (.iconst 4, 1) := by decide +kernel
theorem dX6_line_16 : decode cX6_line 16 = .ok (.invokestatic 47, 3) := by decide +kernel
theorem dX6_line_19 : decode cX6_line 19 = .ok (.ifCond .ne 7, 3) := by decide +kernel
theorem dX6_line_22 : decode cX6_line 22 = .ok (.iconst 2, 1) := by decide +kernel
theorem dX6_line_23 : decode cX6_line 23 = .ok (.goto 4, 3) := by decide +kernel
theorem dX6_line_26 : decode cX6_line 26 = .ok (.iconst 0, 1) := by decide +kernel
theorem dX6_line_27 : decode cX6_line 27 = .ok (.invokevirtual 87, 3) := by decide +kernel
theorem dX6_line_30 : decode cX6_line 30 = .ok (.ifCond .ne 5, 3) := by decide +kernel
theorem dX6_line_33 : decode cX6_line 33 = .ok (.iconst 0, 1) := by decide +kernel
theorem dX6_line_34 : decode cX6_line 34 = .ok (.ireturn, 1) := by decide +kernel
theorem dX6_line_35 : decode cX6_line 35 = .ok (.iload_n 2, 1) := by decide +kernel
theorem dX6_line_36 : decode cX6_line 36 = .ok (.tableswitch 72 0 3 #[32, 42, 52, 62], 32) := by decide +kernel
theorem dX6_line_68 : decode cX6_line 68 = .ok (.aload_n 0, 1) := by decide +kernel
theorem dX6_line_69 : decode cX6_line 69 = .ok (.getfield 7, 3) := by decide +kernel
theorem dX6_line_72 : decode cX6_line 72 = .ok (.bipush 10, 2) := by decide +kernel
theorem dX6_line_74 : decode cX6_line 74 = .ok (.iload_n 1, 1) := by decide +kernel
theorem dX6_line_75 : decode cX6_line 75 = .ok (.iadd, 1) := by decide +kernel
theorem dX6_line_76 : decode cX6_line 76 = .ok (.iaload, 1) := by decide +kernel
theorem dX6_line_77 : decode cX6_line 77 = .ok (.ireturn, 1) := by decide +kernel
theorem dX6_line_78 : decode cX6_line 78 = .ok (.aload_n 0, 1) := by decide +kernel
theorem dX6_line_79 : decode cX6_line 79 = .ok (.getfield 7, 3) := by decide +kernel
theorem dX6_line_82 : decode cX6_line 82 = .ok (.bipush 13, 2) := by decide +kernel
theorem dX6_line_84 : decode cX6_line 84 = .ok (.iload_n 1, 1) := by decide +kernel
theorem dX6_line_85 : decode cX6_line 85 = .ok (.iadd, 1) := by decide +kernel
theorem dX6_line_86 : decode cX6_line 86 = .ok (.iaload, 1) := by decide +kernel
theorem dX6_line_87 : decode cX6_line 87 = .ok (.ireturn, 1) := by decide +kernel
theorem dX6_line_88 : decode cX6_line 88 = .ok (.aload_n 0, 1) := by decide +kernel
theorem dX6_line_89 : decode cX6_line 89 = .ok (.getfield 7, 3) := by decide +kernel
theorem dX6_line_92 : decode cX6_line 92 = .ok (.bipush 16, 2) := by decide +kernel
theorem dX6_line_94 : decode cX6_line 94 = .ok (.iload_n 1, 1) := by decide +kernel
theorem dX6_line_95 : decode cX6_line 95 = .ok (.iadd, 1) := by decide +kernel
theorem dX6_line_96 : decode cX6_line 96 = .ok (.iaload, 1) := by decide +kernel
theorem dX6_line_97 : decode cX6_line 97 = .ok (.ireturn, 1) := by decide +kernel
theorem dX6_line_98 : decode cX6_line 98 = .ok (.aload_n 0, 1) := by decide +kernel
theorem dX6_line_99 : decode cX6_line 99 = .ok (.getfield 7, 3) := by decide +kernel
theorem dX6_line_102 : decode cX6_line 102 = .ok (.bipush 19, 2) := by decide +kernel
theorem dX6_line_104 : decode cX6_line 104 = .ok (.iload_n 1, 1) := by decide +kernel
theorem dX6_line_105 : decode cX6_line 105 = .ok (.iadd, 1) := by decide +kernel
theorem dX6_line_106 : decode cX6_line 106 = .ok (.iaload, 1) := by decide +kernel
theorem dX6_line_107 : decode cX6_line 107 = .ok (.ireturn, 1) := by decide +kernel
theorem dX6_line_108 : decode cX6_line 108 = .ok (.aload_n 0, 1) := by decide +kernel
theorem dX6_line_109 : decode cX6_line 109 = .ok (.iload_n 1, 1) := by decide +kernel
theorem dX6_line_110 : decode cX6_line 110 = .ok (.invokevirtual 152, 3) := by decide +kernel
theorem dX6_line_113 : decode cX6_line 113 = .ok (.ireturn, 1) := by decide +kernel
set_option maxRecDepth 20000 in
theorem ggX6_at_X6_isLine : GoodIn wsX6_at wsX6_isLine := goodIn_r _ [6, 1, 7, 8, 5, 9, 15, 16, 17, 18, 19, 20, 21, 22, 23, 24, 25, 26, 27] (by decide +kernel) (by decide +kernel)
set_option maxRecDepth 20000 in
theorem gX6_at_X6_isLine : GoodIn wsX6_at (wsV RX6 55 RX6 yX6_isLine wsX6_isLine) := goodIn_app (goodIn_of _ (by decide +kernel)) ggX6_at_X6_isLine
set_option maxRecDepth 20000 in
theorem ggX6_at_X6_holds : GoodIn wsX6_at wsX6_holds := goodIn_r _ [13, 14, 15, 16, 17, 18, 19, 20, 21, 22, 23, 24, 25, 26, 27] (by decide +kernel) (by decide +kernel)
set_option maxRecDepth 20000 in
theorem gX6_at_X6_holds : GoodIn wsX6_at (wsV RX6 87 RX6 yX6_holds wsX6_holds) := goodIn_app (goodIn_of _ (by decide +kernel)) ggX6_at_X6_holds
theorem dX6_at_0 : decode cX6_at 0 = .ok (.aload_n 0, 1) := by decide +kernel
theorem dX6_at_1 : decode cX6_at 1 = .ok (.aload_n 0, 1) := by decide +kernel
theorem dX6_at_2 : decode cX6_at 2 = .ok (.iload_n 1, 1) := by decide +kernel
theorem dX6_at_3 : decode cX6_at 3 = .ok (.invokevirtual 55, 3) := by decide +kernel
theorem dX6_at_6 : decode cX6_at 6 = .ok (.ifCond .ne 7, 3) := by decide +kernel
theorem dX6_at_9 : decode cX6_at 9 = .ok (.iconst 1, 1) := by decide +kernel
theorem dX6_at_10 : decode cX6_at 10 = .ok (.goto 12, 3) := by decide +kernel
theorem dX6_at_13 : decode cX6_at 13 = .ok (.iload_n 2, 1) := by decide +kernel
theorem dX6_at_14 : decode cX6_at 14 = .ok (.ifCond .ge 7, 3) := by decide +kernel
theorem dX6_at_17 : decode cX6_at 17 = .ok (.iconst 2, 1) := by decide +kernel
theorem dX6_at_18 : decode cX6_at 18 = .ok (.goto 4, 3) := by decide +kernel
theorem dX6_at_21 : decode cX6_at 21 = .ok (.iconst 0, 1) := by decide +kernel
theorem dX6_at_22 : decode cX6_at 22 = .ok (.invokevirtual 87, 3) := by decide +kernel
theorem dX6_at_25 : decode cX6_at 25 = .ok (.ifCond .ne 5, 3) := by decide +kernel
theorem dX6_at_28 : decode cX6_at 28 = .ok (.iconst 0, 1) := by decide +kernel
theorem dX6_at_29 : decode cX6_at 29 = .ok (.ireturn, 1) := by decide +kernel
theorem dX6_at_30 : decode cX6_at 30 = .ok (.iload_n 2, 1) := by decide +kernel
theorem dX6_at_31 : decode cX6_at 31 = .ok (.aload_n 0, 1) := by decide +kernel
theorem dX6_at_32 : decode cX6_at 32 = .ok (.getfield 7, 3) := by decide +kernel
theorem dX6_at_35 : decode cX6_at 35 = .ok (.bipush 13, 2) := by decide +kernel
theorem dX6_at_37 : decode cX6_at 37 = .ok (.iload_n 1, 1) := by decide +kernel
theorem dX6_at_38 : decode cX6_at 38 = .ok (.iadd, 1) := by decide +kernel
theorem dX6_at_39 : decode cX6_at 39 = .ok (.iaload, 1) := by decide +kernel
theorem dX6_at_40 : decode cX6_at 40 = .ok (.if_icmp .ge 20, 3) := by decide +kernel
theorem dX6_at_43 : decode cX6_at 43 = .ok (.aload_n 0, 1) := by decide +kernel
theorem dX6_at_44 : decode cX6_at 44 = .ok (.getfield 7, 3) := by decide +kernel
theorem dX6_at_47 : decode cX6_at 47 = .ok (.bipush 22, 2) := by decide +kernel
theorem dX6_at_49 : decode cX6_at 49 = .ok (.bipush 12, 2) := by decide +kernel
theorem dX6_at_51 : decode cX6_at 51 = .ok (.iload_n 1, 1) := by decide +kernel
theorem dX6_at_52 : decode cX6_at 52 = .ok (.imul, 1) := by decide +kernel
theorem dX6_at_53 : decode cX6_at 53 = .ok (.iadd, 1) := by decide +kernel
theorem dX6_at_54 : decode cX6_at 54 = .ok (.iload_n 2, 1) := by decide +kernel
theorem dX6_at_55 : decode cX6_at 55 = .ok (.iadd, 1) := by decide +kernel
theorem dX6_at_56 : decode cX6_at 56 = .ok (.iaload, 1) := by decide +kernel
theorem dX6_at_57 : decode cX6_at 57 = .ok (.goto 4, 3) := by decide +kernel
theorem dX6_at_60 : decode cX6_at 60 = .ok (.iconst (-1), 1) := by decide +kernel
theorem dX6_at_61 : decode cX6_at 61 = .ok (.ireturn, 1) := by decide +kernel
set_option maxRecDepth 20000 in
theorem ggX6_person_X6_isPerson : GoodIn wsX6_person wsX6_isPerson := goodIn_r _ [6, 1, 7, 8, 5, 9, 22, 23, 24, 25, 26, 27, 28, 29, 30, 31, 32, 33, 34] (by decide +kernel) (by decide +kernel)
set_option maxRecDepth 20000 in
theorem gX6_person_X6_isPerson : GoodIn wsX6_person (wsV RX6 59 RX6 yX6_isPerson wsX6_isPerson) := goodIn_app (goodIn_of _ (by decide +kernel)) ggX6_person_X6_isPerson
set_option maxRecDepth 20000 in
theorem ggX6_person_X6_in : GoodIn wsX6_person wsX6_in := goodIn_r _ [9] (by decide +kernel) (by decide +kernel)
set_option maxRecDepth 20000 in
theorem gX6_person_X6_in : GoodIn wsX6_person (va_wsS RX6 47 yX6_in wsX6_in) := goodIn_app (goodIn_of _ (by decide +kernel)) ggX6_person_X6_in
set_option maxRecDepth 20000 in
theorem ggX6_person_X6_holds : GoodIn wsX6_person wsX6_holds := goodIn_r _ [13, 14, 22, 23, 24, 25, 26, 27, 28, 29, 30, 31, 32, 33, 34] (by decide +kernel) (by decide +kernel)
set_option maxRecDepth 20000 in
theorem gX6_person_X6_holds : GoodIn wsX6_person (wsV RX6 87 RX6 yX6_holds wsX6_holds) := goodIn_app (goodIn_of _ (by decide +kernel)) ggX6_person_X6_holds
set_option maxRecDepth 20000 in
theorem ggX6_person_X6_of : GoodIn wsX6_person wsX6_of := goodIn_r _ [17] (by decide +kernel) (by decide +kernel)
set_option maxRecDepth 20000 in
theorem gX6_person_X6_of : GoodIn wsX6_person (va_wsS RX6 51 yX6_of wsX6_of) := goodIn_app (goodIn_of _ (by decide +kernel)) ggX6_person_X6_of
set_option maxRecDepth 20000 in
theorem ggX6_person_X6_placeOf : GoodIn wsX6_person wsX6_placeOf := goodIn_r _ [21, 1, 15, 16, 5, 17, 22, 23, 24, 25, 26, 27, 28, 29, 30, 31, 32, 33, 34] (by decide +kernel) (by decide +kernel)
set_option maxRecDepth 20000 in
theorem gX6_person_X6_placeOf : GoodIn wsX6_person (wsV RX6 65 RX6 yX6_placeOf wsX6_placeOf) := goodIn_app (goodIn_of _ (by decide +kernel)) ggX6_person_X6_placeOf
theorem dX6_person_0 : decode cX6_person 0 = .ok (.aload_n 0, 1) := by decide +kernel
theorem dX6_person_1 : decode cX6_person 1 = .ok (.aload_n 0, 1) := by decide +kernel
theorem dX6_person_2 : decode cX6_person 2 = .ok (.iload_n 1, 1) := by decide +kernel
theorem dX6_person_3 : decode cX6_person 3 = .ok (.invokevirtual 59, 3) := by decide +kernel
theorem dX6_person_6 : decode cX6_person 6 = .ok (.ifCond .ne 7, 3) := by decide +kernel
theorem dX6_person_9 : decode cX6_person 9 = .ok (.iconst 1, 1) := by decide +kernel
theorem dX6_person_10 : decode cX6_person 10 = .ok (.goto 18, 3) := by decide +kernel
theorem dX6_person_13 : decode cX6_person 13 = .ok (.iload_n 2, 1) := by decide +kernel
theorem dX6_person_14 : decode cX6_person 14 = .ok (.iconst 0, 1) := by decide +kernel
theorem dX6_person_15 : decode cX6_person 15 = .ok (.bipush 8, 2) := by decide +kernel
theorem dX6_person_17 : decode cX6_person 17 = .ok (.invokestatic 47, 3) := by decide +kernel
theorem dX6_person_20 : decode cX6_person 20 = .ok (.ifCond .ne 7, 3) := by decide +kernel
theorem dX6_person_23 : decode cX6_person 23 = .ok (.iconst 2, 1) := by decide +kernel
theorem dX6_person_24 : decode cX6_person 24 = .ok (.goto 4, 3) := by decide +kernel
theorem dX6_person_27 : decode cX6_person 27 = .ok (.iconst 0, 1) := by decide +kernel
theorem dX6_person_28 : decode cX6_person 28 = .ok (.invokevirtual 87, 3) := by decide +kernel
theorem dX6_person_31 : decode cX6_person 31 = .ok (.ifCond .ne 5, 3) := by decide +kernel
theorem dX6_person_34 : decode cX6_person 34 = .ok (.iconst 0, 1) := by decide +kernel
theorem dX6_person_35 : decode cX6_person 35 = .ok (.ireturn, 1) := by decide +kernel
theorem dX6_person_36 : decode cX6_person 36 = .ok (.iload_n 2, 1) := by decide +kernel
theorem dX6_person_37 : decode cX6_person 37 = .ok (.tableswitch 44 0 2 #[27, 27, 38], 27) := by decide +kernel
theorem dX6_person_64 : decode cX6_person 64 = .ok (.aload_n 0, 1) := by decide +kernel
theorem dX6_person_65 : decode cX6_person 65 = .ok (.getfield 7, 3) := by decide +kernel
theorem dX6_person_68 : decode cX6_person 68 = .ok (.iload_n 1, 1) := by decide +kernel
theorem dX6_person_69 : decode cX6_person 69 = .ok (.iload_n 2, 1) := by decide +kernel
theorem dX6_person_70 : decode cX6_person 70 = .ok (.invokestatic 51, 3) := by decide +kernel
theorem dX6_person_73 : decode cX6_person 73 = .ok (.iaload, 1) := by decide +kernel
theorem dX6_person_74 : decode cX6_person 74 = .ok (.ireturn, 1) := by decide +kernel
theorem dX6_person_75 : decode cX6_person 75 = .ok (.aload_n 0, 1) := by decide +kernel
theorem dX6_person_76 : decode cX6_person 76 = .ok (.iload_n 1, 1) := by decide +kernel
theorem dX6_person_77 : decode cX6_person 77 = .ok (.invokevirtual 65, 3) := by decide +kernel
theorem dX6_person_80 : decode cX6_person 80 = .ok (.ireturn, 1) := by decide +kernel
theorem dX6_person_81 : decode cX6_person 81 = .ok (.aload_n 0, 1) := by decide +kernel
theorem dX6_person_82 : decode cX6_person 82 = .ok (.getfield 7, 3) := by decide +kernel
theorem dX6_person_85 : decode cX6_person 85 = .ok (.iload_n 1, 1) := by decide +kernel
theorem dX6_person_86 : decode cX6_person 86 = .ok (.iload_n 2, 1) := by decide +kernel
theorem dX6_person_87 : decode cX6_person 87 = .ok (.iconst 1, 1) := by decide +kernel
theorem dX6_person_88 : decode cX6_person 88 = .ok (.isub, 1) := by decide +kernel
theorem dX6_person_89 : decode cX6_person 89 = .ok (.invokestatic 51, 3) := by decide +kernel
theorem dX6_person_92 : decode cX6_person 92 = .ok (.iaload, 1) := by decide +kernel
theorem dX6_person_93 : decode cX6_person 93 = .ok (.ireturn, 1) := by decide +kernel
set_option maxRecDepth 20000 in
theorem ggX6_setting_X6_in : GoodIn wsX6_setting wsX6_in := goodIn_r _ [5] (by decide +kernel) (by decide +kernel)
set_option maxRecDepth 20000 in
theorem gX6_setting_X6_in : GoodIn wsX6_setting (va_wsS RX6 47 yX6_in wsX6_in) := goodIn_app (goodIn_of _ (by decide +kernel)) ggX6_setting_X6_in
set_option maxRecDepth 20000 in
theorem ggX6_setting_X6_holds : GoodIn wsX6_setting wsX6_holds := goodIn_r _ [9, 10, 11, 12, 13, 14, 15, 16, 17, 18, 19, 20, 21, 22, 23] (by decide +kernel) (by decide +kernel)
set_option maxRecDepth 20000 in
theorem gX6_setting_X6_holds : GoodIn wsX6_setting (wsV RX6 87 RX6 yX6_holds wsX6_holds) := goodIn_app (goodIn_of _ (by decide +kernel)) ggX6_setting_X6_holds
theorem dX6_setting_0 : decode cX6_setting 0 = .ok (.aload_n 0, 1) := by decide +kernel
theorem dX6_setting_1 : decode cX6_setting 1 = .ok (.iload_n 1, 1) := by decide +kernel
theorem dX6_setting_2 : decode cX6_setting 2 = .ok (.iconst 0, 1) := by decide +kernel
theorem dX6_setting_3 : decode cX6_setting 3 = .ok (.iconst 3, 1) := by decide +kernel
theorem dX6_setting_4 : decode cX6_setting 4 = .ok (.invokestatic 47, 3) := by decide +kernel
theorem dX6_setting_7 : decode cX6_setting 7 = .ok (.ifCond .eq 7, 3) := by decide +kernel
theorem dX6_setting_10 : decode cX6_setting 10 = .ok (.iconst 0, 1) := by decide +kernel
theorem dX6_setting_11 : decode cX6_setting 11 = .ok (.goto 4, 3) := by decide +kernel
theorem dX6_setting_14 : decode cX6_setting 14 = .ok (.iconst 1, 1) := by decide +kernel
theorem dX6_setting_15 : decode cX6_setting 15 = .ok (.invokevirtual 87, 3) := by decide +kernel
theorem dX6_setting_18 : decode cX6_setting 18 = .ok (.ifCond .eq 15, 3) := by decide +kernel
theorem dX6_setting_21 : decode cX6_setting 21 = .ok (.aload_n 0, 1) := by decide +kernel
theorem dX6_setting_22 : decode cX6_setting 22 = .ok (.getfield 7, 3) := by decide +kernel
theorem dX6_setting_25 : decode cX6_setting 25 = .ok (.bipush 6, 2) := by decide +kernel
theorem dX6_setting_27 : decode cX6_setting 27 = .ok (.iload_n 1, 1) := by decide +kernel
theorem dX6_setting_28 : decode cX6_setting 28 = .ok (.iadd, 1) := by decide +kernel
theorem dX6_setting_29 : decode cX6_setting 29 = .ok (.iaload, 1) := by decide +kernel
theorem dX6_setting_30 : decode cX6_setting 30 = .ok (.goto 4, 3) := by decide +kernel
theorem dX6_setting_33 : decode cX6_setting 33 = .ok (.iconst 0, 1) := by decide +kernel
theorem dX6_setting_34 : decode cX6_setting 34 = .ok (.ireturn, 1) := by decide +kernel
set_option maxRecDepth 20000 in
theorem ggX6_open_X6_in : GoodIn wsX6_open wsX6_in := goodIn_r _ [5] (by decide +kernel) (by decide +kernel)
set_option maxRecDepth 20000 in
theorem gX6_open_X6_in : GoodIn wsX6_open (va_wsS RX6 47 yX6_in wsX6_in) := goodIn_app (goodIn_of _ (by decide +kernel)) ggX6_open_X6_in
set_option maxRecDepth 20000 in
theorem ggX6_open_X6_holds : GoodIn wsX6_open wsX6_holds := goodIn_r _ [9, 10, 21, 22, 23, 24, 25, 26, 27, 28, 29, 30, 31, 32, 33] (by decide +kernel) (by decide +kernel)
set_option maxRecDepth 20000 in
theorem gX6_open_X6_holds : GoodIn wsX6_open (wsV RX6 87 RX6 yX6_holds wsX6_holds) := goodIn_app (goodIn_of _ (by decide +kernel)) ggX6_open_X6_holds
set_option maxRecDepth 20000 in
theorem ggX6_open_X6_remember : GoodIn wsX6_open wsX6_remember := goodIn_r _ [14, 15, 16, 1, 21, 22, 23, 24, 25, 26, 27, 28, 29, 30, 31, 32, 33] (by decide +kernel) (by decide +kernel)
set_option maxRecDepth 20000 in
theorem gX6_open_X6_remember : GoodIn wsX6_open (wsV RX6 155 RX6 yX6_remember wsX6_remember) := goodIn_app (goodIn_of _ (by decide +kernel)) ggX6_open_X6_remember
set_option maxRecDepth 20000 in
theorem ggX6_open_X6_lineOf : GoodIn wsX6_open wsX6_lineOf := goodIn_r _ [20, 1, 21, 22, 23, 24, 25, 26, 27, 28, 29, 30, 31, 32, 33] (by decide +kernel) (by decide +kernel)
set_option maxRecDepth 20000 in
theorem gX6_open_X6_lineOf : GoodIn wsX6_open (wsV RX6 33 RX6 yX6_lineOf wsX6_lineOf) := goodIn_app (goodIn_of _ (by decide +kernel)) ggX6_open_X6_lineOf
theorem dX6_open_0 : decode cX6_open 0 = .ok (.aload_n 0, 1) := by decide +kernel
theorem dX6_open_1 : decode cX6_open 1 = .ok (.iload_n 1, 1) := by decide +kernel
theorem dX6_open_2 : decode cX6_open 2 = .ok (.iconst 1, 1) := by decide +kernel
theorem dX6_open_3 : decode cX6_open 3 = .ok (.bipush 20, 2) := by decide +kernel
theorem dX6_open_5 : decode cX6_open 5 = .ok (.invokestatic 47, 3) := by decide +kernel
theorem dX6_open_8 : decode cX6_open 8 = .ok (.ifCond .ne 7, 3) := by decide +kernel
theorem dX6_open_11 : decode cX6_open 11 = .ok (.iconst 1, 1) := by decide +kernel
theorem dX6_open_12 : decode cX6_open 12 = .ok (.goto 18, 3) := by decide +kernel
theorem dX6_open_15 : decode cX6_open 15 = .ok (.aload_n 0, 1) := by decide +kernel
theorem dX6_open_16 : decode cX6_open 16 = .ok (.getfield 7, 3) := by decide +kernel
theorem dX6_open_19 : decode cX6_open 19 = .ok (.iconst 1, 1) := by decide +kernel
theorem dX6_open_20 : decode cX6_open 20 = .ok (.iaload, 1) := by decide +kernel
theorem dX6_open_21 : decode cX6_open 21 = .ok (.iconst 3, 1) := by decide +kernel
theorem dX6_open_22 : decode cX6_open 22 = .ok (.if_icmp .ne 7, 3) := by decide +kernel
theorem dX6_open_25 : decode cX6_open 25 = .ok (.iconst 2, 1) := by decide +kernel
theorem dX6_open_26 : decode cX6_open 26 = .ok (.goto 4, 3) := by decide +kernel
theorem dX6_open_29 : decode cX6_open 29 = .ok (.iconst 0, 1) := by decide +kernel
theorem dX6_open_30 : decode cX6_open 30 = .ok (.invokevirtual 87, 3) := by decide +kernel
theorem dX6_open_33 : decode cX6_open 33 = .ok (.ifCond .ne 5, 3) := by decide +kernel
theorem dX6_open_36 : decode cX6_open 36 = .ok (.iconst 0, 1) := by decide +kernel
theorem dX6_open_37 : decode cX6_open 37 = .ok (.ireturn, 1) := by decide +kernel
theorem dX6_open_38 : decode cX6_open 38 = .ok (.aload_n 0, 1) := by decide +kernel
theorem dX6_open_39 : decode cX6_open 39 = .ok (.invokevirtual 155, 3) := by decide +kernel
theorem dX6_open_42 : decode cX6_open 42 = .ok (.aload_n 0, 1) := by decide +kernel
theorem dX6_open_43 : decode cX6_open 43 = .ok (.iload_n 1, 1) := by decide +kernel
theorem dX6_open_44 : decode cX6_open 44 = .ok (.invokevirtual 33, 3) := by decide +kernel
theorem dX6_open_47 : decode cX6_open 47 = .ok (.ireturn, 1) := by decide +kernel
set_option maxRecDepth 20000 in
theorem ggX6_come_X6_comeFault : GoodIn wsX6_come wsX6_comeFault := goodIn_r _ [5, 6, 7, 8, 9, 4, 10, 11, 12, 13, 32, 33, 34, 35, 36, 37, 38, 39, 40, 41, 42, 43, 44] (by decide +kernel) (by decide +kernel)
set_option maxRecDepth 20000 in
theorem gX6_come_X6_comeFault : GoodIn wsX6_come (wsV RX6 109 RX6 yX6_comeFault wsX6_comeFault) := goodIn_app (goodIn_of _ (by decide +kernel)) ggX6_come_X6_comeFault
set_option maxRecDepth 20000 in
theorem ggX6_come_X6_holds : GoodIn wsX6_come wsX6_holds := goodIn_r _ [17, 18, 32, 33, 34, 35, 36, 37, 38, 39, 40, 41, 42, 43, 44] (by decide +kernel) (by decide +kernel)
set_option maxRecDepth 20000 in
theorem gX6_come_X6_holds : GoodIn wsX6_come (wsV RX6 87 RX6 yX6_holds wsX6_holds) := goodIn_app (goodIn_of _ (by decide +kernel)) ggX6_come_X6_holds
set_option maxRecDepth 20000 in
theorem ggX6_come_X6_remember : GoodIn wsX6_come wsX6_remember := goodIn_r _ [22, 23, 24, 6, 32, 33, 34, 35, 36, 37, 38, 39, 40, 41, 42, 43, 44] (by decide +kernel) (by decide +kernel)
set_option maxRecDepth 20000 in
theorem gX6_come_X6_remember : GoodIn wsX6_come (wsV RX6 155 RX6 yX6_remember wsX6_remember) := goodIn_app (goodIn_of _ (by decide +kernel)) ggX6_come_X6_remember
set_option maxRecDepth 20000 in
theorem ggX6_come_X6_comes : GoodIn wsX6_come wsX6_comes := goodIn_r _ [28, 6, 29, 30, 4, 31, 32, 33, 34, 35, 36, 37, 38, 39, 40, 41, 42, 43, 44] (by decide +kernel) (by decide +kernel)
set_option maxRecDepth 20000 in
theorem gX6_come_X6_comes : GoodIn wsX6_come (wsV RX6 121 RX6 yX6_comes wsX6_comes) := goodIn_app (goodIn_of _ (by decide +kernel)) ggX6_come_X6_comes
