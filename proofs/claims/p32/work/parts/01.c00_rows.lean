theorem dX0_init_0 : decode cX0_init 0 = .ok (.aload_n 0, 1) := by decide +kernel
theorem dX0_init_1 : decode cX0_init 1 = .ok (.invokespecial 3, 3) := by decide +kernel
theorem dX0_init_4 : decode cX0_init 4 = .ok (.aload_n 0, 1) := by decide +kernel
theorem dX0_init_5 : decode cX0_init 5 = .ok (.bipush 100, 2) := by decide +kernel
theorem dX0_init_7 : decode cX0_init 7 = .ok (.newarray .int, 2) := by decide +kernel
theorem dX0_init_9 : decode cX0_init 9 = .ok (.putfield 9, 3) := by decide +kernel
theorem dX0_init_12 : decode cX0_init 12 = .ok (.return_, 1) := by decide +kernel
set_option maxRecDepth 20000 in
theorem ggX1_init_X3_init : GoodIn wsX1_init wsX3_init := goodIn_r _ [17, 18, 2, 3, 4, 19, 36, 37, 38, 39, 40] (by decide +kernel) (by decide +kernel)
set_option maxRecDepth 20000 in
theorem gX1_init_X3_init_n27 : GoodIn wsX1_init (wsX3_init) := ggX1_init_X3_init
set_option maxRecDepth 20000 in
theorem ggX1_init_X4_init : GoodIn wsX1_init wsX4_init := goodIn_r _ [21, 22, 2, 3, 23, 24, 41, 42, 43, 44, 45, 46, 47, 48, 49] (by decide +kernel) (by decide +kernel)
set_option maxRecDepth 20000 in
theorem gX1_init_X4_init_n32 : GoodIn wsX1_init (wsX4_init) := ggX1_init_X4_init
theorem dX1_init_0 : decode cX1_init 0 = .ok (.aload_n 0, 1) := by decide +kernel
theorem dX1_init_1 : decode cX1_init 1 = .ok (.invokespecial 3, 3) := by decide +kernel
theorem dX1_init_4 : decode cX1_init 4 = .ok (.aload_n 0, 1) := by decide +kernel
theorem dX1_init_5 : decode cX1_init 5 = .ok (.iconst 4, 1) := by decide +kernel
theorem dX1_init_6 : decode cX1_init 6 = .ok (.newarray .int, 2) := by decide +kernel
theorem dX1_init_8 : decode cX1_init 8 = .ok (.putfield 9, 3) := by decide +kernel
theorem dX1_init_11 : decode cX1_init 11 = .ok (.aload_n 0, 1) := by decide +kernel
theorem dX1_init_12 : decode cX1_init 12 = .ok (.iconst 3, 1) := by decide +kernel
theorem dX1_init_13 : decode cX1_init 13 = .ok (.anewarray 15, 3) := by decide +kernel
theorem dX1_init_16 : decode cX1_init 16 = .ok (.putfield 17, 3) := by decide +kernel
theorem dX1_init_19 : decode cX1_init 19 = .ok (.aload_n 0, 1) := by decide +kernel
theorem dX1_init_20 : decode cX1_init 20 = .ok (.bipush 30, 2) := by decide +kernel
theorem dX1_init_22 : decode cX1_init 22 = .ok (.anewarray 21, 3) := by decide +kernel
theorem dX1_init_25 : decode cX1_init 25 = .ok (.putfield 23, 3) := by decide +kernel
theorem dX1_init_28 : decode cX1_init 28 = .ok (.aload_n 0, 1) := by decide +kernel
theorem dX1_init_29 : decode cX1_init 29 = .ok (.new 15, 3) := by decide +kernel
theorem dX1_init_32 : decode cX1_init 32 = .ok (.dup, 1) := by decide +kernel
theorem dX1_init_33 : decode cX1_init 33 = .ok (.invokespecial 27, 3) := by decide +kernel
theorem dX1_init_36 : decode cX1_init 36 = .ok (.putfield 28, 3) := by decide +kernel
theorem dX1_init_39 : decode cX1_init 39 = .ok (.aload_n 0, 1) := by decide +kernel
theorem dX1_init_40 : decode cX1_init 40 = .ok (.new 21, 3) := by decide +kernel
theorem dX1_init_43 : decode cX1_init 43 = .ok (.dup, 1) := by decide +kernel
theorem dX1_init_44 : decode cX1_init 44 = .ok (.invokespecial 32, 3) := by decide +kernel
theorem dX1_init_47 : decode cX1_init 47 = .ok (.putfield 33, 3) := by decide +kernel
theorem dX1_init_50 : decode cX1_init 50 = .ok (.iconst 0, 1) := by decide +kernel
theorem dX1_init_51 : decode cX1_init 51 = .ok (.istore_n 1, 1) := by decide +kernel
theorem dX1_init_52 : decode cX1_init 52 = .ok (.iload_n 1, 1) := by decide +kernel
theorem dX1_init_53 : decode cX1_init 53 = .ok (.aload_n 0, 1) := by decide +kernel
theorem dX1_init_54 : decode cX1_init 54 = .ok (.getfield 17, 3) := by decide +kernel
theorem dX1_init_57 : decode cX1_init 57 = .ok (.arraylength, 1) := by decide +kernel
theorem dX1_init_58 : decode cX1_init 58 = .ok (.if_icmp .ge 22, 3) := by decide +kernel
theorem dX1_init_61 : decode cX1_init 61 = .ok (.aload_n 0, 1) := by decide +kernel
theorem dX1_init_62 : decode cX1_init 62 = .ok (.getfield 17, 3) := by decide +kernel
theorem dX1_init_65 : decode cX1_init 65 = .ok (.iload_n 1, 1) := by decide +kernel
theorem dX1_init_66 : decode cX1_init 66 = .ok (.new 15, 3) := by decide +kernel
theorem dX1_init_69 : decode cX1_init 69 = .ok (.dup, 1) := by decide +kernel
theorem dX1_init_70 : decode cX1_init 70 = .ok (.invokespecial 27, 3) := by decide +kernel
theorem dX1_init_73 : decode cX1_init 73 = .ok (.aastore, 1) := by decide +kernel
theorem dX1_init_74 : decode cX1_init 74 = .ok (.iinc 1 1, 3) := by decide +kernel
theorem dX1_init_77 : decode cX1_init 77 = .ok (.goto (-25), 3) := by decide +kernel
theorem dX1_init_80 : decode cX1_init 80 = .ok (.iconst 0, 1) := by decide +kernel
theorem dX1_init_81 : decode cX1_init 81 = .ok (.istore_n 1, 1) := by decide +kernel
theorem dX1_init_82 : decode cX1_init 82 = .ok (.iload_n 1, 1) := by decide +kernel
theorem dX1_init_83 : decode cX1_init 83 = .ok (.aload_n 0, 1) := by decide +kernel
theorem dX1_init_84 : decode cX1_init 84 = .ok (.getfield 23, 3) := by decide +kernel
theorem dX1_init_87 : decode cX1_init 87 = .ok (.arraylength, 1) := by decide +kernel
theorem dX1_init_88 : decode cX1_init 88 = .ok (.if_icmp .ge 22, 3) := by decide +kernel
theorem dX1_init_91 : decode cX1_init 91 = .ok (.aload_n 0, 1) := by decide +kernel
theorem dX1_init_92 : decode cX1_init 92 = .ok (.getfield 23, 3) := by decide +kernel
theorem dX1_init_95 : decode cX1_init 95 = .ok (.iload_n 1, 1) := by decide +kernel
theorem dX1_init_96 : decode cX1_init 96 = .ok (.new 21, 3) := by decide +kernel
theorem dX1_init_99 : decode cX1_init 99 = .ok (.dup, 1) := by decide +kernel
theorem dX1_init_100 : decode cX1_init 100 = .ok (.invokespecial 32, 3) := by decide +kernel
theorem dX1_init_103 : decode cX1_init 103 = .ok (.aastore, 1) := by decide +kernel
theorem dX1_init_104 : decode cX1_init 104 = .ok (.iinc 1 1, 3) := by decide +kernel
theorem dX1_init_107 : decode cX1_init 107 = .ok (.goto (-25), 3) := by decide +kernel
theorem dX1_init_110 : decode cX1_init 110 = .ok (.return_, 1) := by decide +kernel
theorem dX1_beginAnew_0 : decode cX1_beginAnew 0 = .ok (.aload_n 0, 1) := by decide +kernel
theorem dX1_beginAnew_1 : decode cX1_beginAnew 1 = .ok (.iconst 0, 1) := by decide +kernel
theorem dX1_beginAnew_2 : decode cX1_beginAnew 2 = .ok (.putfield 37, 3) := by decide +kernel
theorem dX1_beginAnew_5 : decode cX1_beginAnew 5 = .ok (.aload_n 0, 1) := by decide +kernel
theorem dX1_beginAnew_6 : decode cX1_beginAnew 6 = .ok (.iconst 0, 1) := by decide +kernel
theorem dX1_beginAnew_7 : decode cX1_beginAnew 7 = .ok (.putfield 41, 3) := by decide +kernel
theorem dX1_beginAnew_10 : decode cX1_beginAnew 10 = .ok (.aload_n 0, 1) := by decide +kernel
theorem dX1_beginAnew_11 : decode cX1_beginAnew 11 = .ok (.iconst 0, 1) := by decide +kernel
theorem dX1_beginAnew_12 : decode cX1_beginAnew 12 = .ok (.putfield 44, 3) := by decide +kernel
theorem dX1_beginAnew_15 : decode cX1_beginAnew 15 = .ok (.aload_n 0, 1) := by decide +kernel
theorem dX1_beginAnew_16 : decode cX1_beginAnew 16 = .ok (.iconst 0, 1) := by decide +kernel
theorem dX1_beginAnew_17 : decode cX1_beginAnew 17 = .ok (.putfield 47, 3) := by decide +kernel
theorem dX1_beginAnew_20 : decode cX1_beginAnew 20 = .ok (.aload_n 0, 1) := by decide +kernel
theorem dX1_beginAnew_21 : decode cX1_beginAnew 21 = .ok (.iconst 0, 1) := by decide +kernel
theorem dX1_beginAnew_22 : decode cX1_beginAnew 22 = .ok (.putfield 50, 3) := by decide +kernel
theorem dX1_beginAnew_25 : decode cX1_beginAnew 25 = .ok (.aload_n 0, 1) := by decide +kernel
theorem dX1_beginAnew_26 : decode cX1_beginAnew 26 = .ok (.iconst 0, 1) := by decide +kernel
theorem dX1_beginAnew_27 : decode cX1_beginAnew 27 = .ok (.putfield 53, 3) := by decide +kernel
theorem dX1_beginAnew_30 : decode cX1_beginAnew 30 = .ok (.getstatic 56, 3) := by decide +kernel
theorem dX1_beginAnew_33 : decode cX1_beginAnew 33 = .ok (.iconst 0, 1) := by decide +kernel
theorem dX1_beginAnew_34 : decode cX1_beginAnew 34 = .ok (.aload_n 0, 1) := by decide +kernel
theorem dX1_beginAnew_35 : decode cX1_beginAnew 35 = .ok (.getfield 9, 3) := by decide +kernel
theorem dX1_beginAnew_38 : decode cX1_beginAnew 38 = .ok (.iconst 0, 1) := by decide +kernel
theorem dX1_beginAnew_39 : decode cX1_beginAnew 39 = .ok (.aload_n 0, 1) := by decide +kernel
theorem dX1_beginAnew_40 : decode cX1_beginAnew 40 = .ok (.getfield 9, 3) := by decide +kernel
theorem dX1_beginAnew_43 : decode cX1_beginAnew 43 = .ok (.arraylength, 1) := by decide +kernel
theorem dX1_beginAnew_44 : decode cX1_beginAnew 44 = .ok (.invokestatic 59, 3) := by decide +kernel
theorem dX1_beginAnew_47 : decode cX1_beginAnew 47 = .ok (.return_, 1) := by decide +kernel
set_option maxRecDepth 20000 in
theorem ggX1_copyFrom_X1_lineOf : GoodIn wsX1_copyFrom wsX1_lineOf := goodIn_r _ [18, 12, 19, 50, 51, 52, 53, 54, 55, 56, 57, 58, 59, 60] (by decide +kernel) (by decide +kernel)
set_option maxRecDepth 20000 in
theorem gX1_copyFrom_X1_lineOf : GoodIn wsX1_copyFrom (wsV RX1 65 RX1 yX1_lineOf wsX1_lineOf) := goodIn_app (goodIn_of _ (by decide +kernel)) ggX1_copyFrom_X1_lineOf
set_option maxRecDepth 20000 in
theorem ggX1_copyFrom_X3_copyFrom : GoodIn wsX1_copyFrom wsX3_copyFrom := goodIn_r _ [24, 25, 26, 27, 28, 29, 30, 9, 10, 11, 61, 62, 63, 64, 65] (by decide +kernel) (by decide +kernel)
set_option maxRecDepth 20000 in
theorem gX1_copyFrom_X3_copyFrom : GoodIn wsX1_copyFrom (wsV RX1 69 RX3 yX3_copyFrom wsX3_copyFrom) := goodIn_app (goodIn_of _ (by decide +kernel)) ggX1_copyFrom_X3_copyFrom
set_option maxRecDepth 20000 in
theorem ggX1_copyFrom_X1_personOf : GoodIn wsX1_copyFrom wsX1_personOf := goodIn_r _ [34, 13, 35, 50, 51, 52, 53, 54, 55, 56, 57, 58, 59, 60] (by decide +kernel) (by decide +kernel)
set_option maxRecDepth 20000 in
theorem gX1_copyFrom_X1_personOf : GoodIn wsX1_copyFrom (wsV RX1 73 RX1 yX1_personOf wsX1_personOf) := goodIn_app (goodIn_of _ (by decide +kernel)) ggX1_copyFrom_X1_personOf
set_option maxRecDepth 20000 in
theorem ggX1_copyFrom_X4_copyFrom : GoodIn wsX1_copyFrom wsX4_copyFrom := goodIn_r _ [40, 41, 42, 43, 44, 45, 46, 47, 48, 49, 66, 67, 68, 69, 70, 71, 72, 73, 74] (by decide +kernel) (by decide +kernel)
set_option maxRecDepth 20000 in
theorem gX1_copyFrom_X4_copyFrom : GoodIn wsX1_copyFrom (wsV RX1 77 RX4 yX4_copyFrom wsX4_copyFrom) := goodIn_app (goodIn_of _ (by decide +kernel)) ggX1_copyFrom_X4_copyFrom
theorem dX1_copyFrom_0 : decode cX1_copyFrom 0 = .ok (.aload_n 0, 1) := by decide +kernel
theorem dX1_copyFrom_1 : decode cX1_copyFrom 1 = .ok (.aload_n 1, 1) := by decide +kernel
theorem dX1_copyFrom_2 : decode cX1_copyFrom 2 = .ok (.getfield 37, 3) := by decide +kernel
theorem dX1_copyFrom_5 : decode cX1_copyFrom 5 = .ok (.putfield 37, 3) := by decide +kernel
theorem dX1_copyFrom_8 : decode cX1_copyFrom 8 = .ok (.aload_n 0, 1) := by decide +kernel
theorem dX1_copyFrom_9 : decode cX1_copyFrom 9 = .ok (.aload_n 1, 1) := by decide +kernel
theorem dX1_copyFrom_10 : decode cX1_copyFrom 10 = .ok (.getfield 41, 3) := by decide +kernel
theorem dX1_copyFrom_13 : decode cX1_copyFrom 13 = .ok (.putfield 41, 3) := by decide +kernel
theorem dX1_copyFrom_16 : decode cX1_copyFrom 16 = .ok (.aload_n 0, 1) := by decide +kernel
theorem dX1_copyFrom_17 : decode cX1_copyFrom 17 = .ok (.aload_n 1, 1) := by decide +kernel
theorem dX1_copyFrom_18 : decode cX1_copyFrom 18 = .ok (.getfield 44, 3) := by decide +kernel
theorem dX1_copyFrom_21 : decode cX1_copyFrom 21 = .ok (.putfield 44, 3) := by decide +kernel
theorem dX1_copyFrom_24 : decode cX1_copyFrom 24 = .ok (.aload_n 0, 1) := by decide +kernel
theorem dX1_copyFrom_25 : decode cX1_copyFrom 25 = .ok (.aload_n 1, 1) := by decide +kernel
theorem dX1_copyFrom_26 : decode cX1_copyFrom 26 = .ok (.getfield 47, 3) := by decide +kernel
theorem dX1_copyFrom_29 : decode cX1_copyFrom 29 = .ok (.putfield 47, 3) := by decide +kernel
theorem dX1_copyFrom_32 : decode cX1_copyFrom 32 = .ok (.aload_n 0, 1) := by decide +kernel
theorem dX1_copyFrom_33 : decode cX1_copyFrom 33 = .ok (.aload_n 1, 1) := by decide +kernel
theorem dX1_copyFrom_34 : decode cX1_copyFrom 34 = .ok (.getfield 50, 3) := by decide +kernel
theorem dX1_copyFrom_37 : decode cX1_copyFrom 37 = .ok (.putfield 50, 3) := by decide +kernel
theorem dX1_copyFrom_40 : decode cX1_copyFrom 40 = .ok (.aload_n 0, 1) := by decide +kernel
theorem dX1_copyFrom_41 : decode cX1_copyFrom 41 = .ok (.aload_n 1, 1) := by decide +kernel
theorem dX1_copyFrom_42 : decode cX1_copyFrom 42 = .ok (.getfield 53, 3) := by decide +kernel
theorem dX1_copyFrom_45 : decode cX1_copyFrom 45 = .ok (.putfield 53, 3) := by decide +kernel
theorem dX1_copyFrom_48 : decode cX1_copyFrom 48 = .ok (.aload_n 1, 1) := by decide +kernel
theorem dX1_copyFrom_49 : decode cX1_copyFrom 49 = .ok (.getfield 9, 3) := by decide +kernel
theorem dX1_copyFrom_52 : decode cX1_copyFrom 52 = .ok (.iconst 0, 1) := by decide +kernel
theorem dX1_copyFrom_53 : decode cX1_copyFrom 53 = .ok (.aload_n 0, 1) := by decide +kernel
theorem dX1_copyFrom_54 : decode cX1_copyFrom 54 = .ok (.getfield 9, 3) := by decide +kernel
theorem dX1_copyFrom_57 : decode cX1_copyFrom 57 = .ok (.iconst 0, 1) := by decide +kernel
theorem dX1_copyFrom_58 : decode cX1_copyFrom 58 = .ok (.aload_n 0, 1) := by decide +kernel
theorem dX1_copyFrom_59 : decode cX1_copyFrom 59 = .ok (.getfield 9, 3) := by decide +kernel
theorem dX1_copyFrom_62 : decode cX1_copyFrom 62 = .ok (.arraylength, 1) := by decide +kernel
theorem dX1_copyFrom_63 : decode cX1_copyFrom 63 = .ok (.invokestatic 59, 3) := by decide +kernel
theorem dX1_copyFrom_66 : decode cX1_copyFrom 66 = .ok (.iconst 0, 1) := by decide +kernel
theorem dX1_copyFrom_67 : decode cX1_copyFrom 67 = .ok (.istore_n 2, 1) := by decide +kernel
theorem dX1_copyFrom_68 : decode cX1_copyFrom 68 = .ok (.iload_n 2, 1) := by decide +kernel
theorem dX1_copyFrom_69 : decode cX1_copyFrom 69 = .ok (.aload_n 0, 1) := by decide +kernel
theorem dX1_copyFrom_70 : decode cX1_copyFrom 70 = .ok (.getfield 17, 3) := by decide +kernel
theorem dX1_copyFrom_73 : decode cX1_copyFrom 73 = .ok (.arraylength, 1) := by decide +kernel
theorem dX1_copyFrom_74 : decode cX1_copyFrom 74 = .ok (.if_icmp .ge 23, 3) := by decide +kernel
theorem dX1_copyFrom_77 : decode cX1_copyFrom 77 = .ok (.aload_n 0, 1) := by decide +kernel
theorem dX1_copyFrom_78 : decode cX1_copyFrom 78 = .ok (.getfield 17, 3) := by decide +kernel
theorem dX1_copyFrom_81 : decode cX1_copyFrom 81 = .ok (.iload_n 2, 1) := by decide +kernel
theorem dX1_copyFrom_82 : decode cX1_copyFrom 82 = .ok (.aaload, 1) := by decide +kernel
theorem dX1_copyFrom_83 : decode cX1_copyFrom 83 = .ok (.aload_n 1, 1) := by decide +kernel
theorem dX1_copyFrom_84 : decode cX1_copyFrom 84 = .ok (.iload_n 2, 1) := by decide +kernel
theorem dX1_copyFrom_85 : decode cX1_copyFrom 85 = .ok (.invokevirtual 65, 3) := by decide +kernel
theorem dX1_copyFrom_88 : decode cX1_copyFrom 88 = .ok (.invokevirtual 69, 3) := by decide +kernel
theorem dX1_copyFrom_91 : decode cX1_copyFrom 91 = .ok (.iinc 2 1, 3) := by decide +kernel
theorem dX1_copyFrom_94 : decode cX1_copyFrom 94 = .ok (.goto (-26), 3) := by decide +kernel
theorem dX1_copyFrom_97 : decode cX1_copyFrom 97 = .ok (.iconst 0, 1) := by decide +kernel
theorem dX1_copyFrom_98 : decode cX1_copyFrom 98 = .ok (.istore_n 2, 1) := by decide +kernel
theorem dX1_copyFrom_99 : decode cX1_copyFrom 99 = .ok (.iload_n 2, 1) := by decide +kernel
theorem dX1_copyFrom_100 : decode cX1_copyFrom 100 = .ok (.aload_n 0, 1) := by decide +kernel
theorem dX1_copyFrom_101 : decode cX1_copyFrom 101 = .ok (.getfield 23, 3) := by decide +kernel
theorem dX1_copyFrom_104 : decode cX1_copyFrom 104 = .ok (.arraylength, 1) := by decide +kernel
theorem dX1_copyFrom_105 : decode cX1_copyFrom 105 = .ok (.if_icmp .ge 23, 3) := by decide +kernel
theorem dX1_copyFrom_108 : decode cX1_copyFrom 108 = .ok (.aload_n 0, 1) := by decide +kernel
theorem dX1_copyFrom_109 : decode cX1_copyFrom 109 = .ok (.getfield 23, 3) := by decide +kernel
theorem dX1_copyFrom_112 : decode cX1_copyFrom 112 = .ok (.iload_n 2, 1) := by decide +kernel
theorem dX1_copyFrom_113 : decode cX1_copyFrom 113 = .ok (.aaload, 1) := by decide +kernel
theorem dX1_copyFrom_114 : decode cX1_copyFrom 114 = .ok (.aload_n 1, 1) := by decide +kernel
theorem dX1_copyFrom_115 : decode cX1_copyFrom 115 = .ok (.iload_n 2, 1) := by decide +kernel
theorem dX1_copyFrom_116 : decode cX1_copyFrom 116 = .ok (.invokevirtual 73, 3) := by decide +kernel
theorem dX1_copyFrom_119 : decode cX1_copyFrom 119 = .ok (.invokevirtual 77, 3) := by decide +kernel
theorem dX1_copyFrom_122 : decode cX1_copyFrom 122 = .ok (.iinc 2 1, 3) := by decide +kernel
theorem dX1_copyFrom_125 : decode cX1_copyFrom 125 = .ok (.goto (-26), 3) := by decide +kernel
theorem dX1_copyFrom_128 : decode cX1_copyFrom 128 = .ok (.return_, 1) := by decide +kernel
theorem dX1_isLine_0 : decode cX1_isLine 0 = .ok (.iload_n 1, 1) := by decide +kernel
theorem dX1_isLine_1 : decode cX1_isLine 1 = .ok (.ifCond .lt 15, 3) := by decide +kernel
theorem dX1_isLine_4 : decode cX1_isLine 4 = .ok (.iload_n 1, 1) := by decide +kernel
theorem dX1_isLine_5 : decode cX1_isLine 5 = .ok (.aload_n 0, 1) := by decide +kernel
theorem dX1_isLine_6 : decode cX1_isLine 6 = .ok (.getfield 37, 3) := by decide +kernel
theorem dX1_isLine_9 : decode cX1_isLine 9 = .ok (.if_icmp .ge 7, 3) := by decide +kernel
theorem dX1_isLine_12 : decode cX1_isLine 12 = .ok (.iconst 1, 1) := by decide +kernel
theorem dX1_isLine_13 : decode cX1_isLine 13 = .ok (.goto 4, 3) := by decide +kernel
theorem dX1_isLine_16 : decode cX1_isLine 16 = .ok (.iconst 0, 1) := by decide +kernel
theorem dX1_isLine_17 : decode cX1_isLine 17 = .ok (.ireturn, 1) := by decide +kernel
theorem dX1_isPerson_0 : decode cX1_isPerson 0 = .ok (.iload_n 1, 1) := by decide +kernel
theorem dX1_isPerson_1 : decode cX1_isPerson 1 = .ok (.ifCond .lt 15, 3) := by decide +kernel
theorem dX1_isPerson_4 : decode cX1_isPerson 4 = .ok (.iload_n 1, 1) := by decide +kernel
theorem dX1_isPerson_5 : decode cX1_isPerson 5 = .ok (.aload_n 0, 1) := by decide +kernel
theorem dX1_isPerson_6 : decode cX1_isPerson 6 = .ok (.getfield 41, 3) := by decide +kernel
theorem dX1_isPerson_9 : decode cX1_isPerson 9 = .ok (.if_icmp .ge 7, 3) := by decide +kernel
theorem dX1_isPerson_12 : decode cX1_isPerson 12 = .ok (.iconst 1, 1) := by decide +kernel
theorem dX1_isPerson_13 : decode cX1_isPerson 13 = .ok (.goto 4, 3) := by decide +kernel
theorem dX1_isPerson_16 : decode cX1_isPerson 16 = .ok (.iconst 0, 1) := by decide +kernel
theorem dX1_isPerson_17 : decode cX1_isPerson 17 = .ok (.ireturn, 1) := by decide +kernel
set_option maxRecDepth 20000 in
theorem ggX1_stands_X1_isPerson : GoodIn wsX1_stands wsX1_isPerson := goodIn_r _ [6, 7, 23, 24, 25, 26, 27, 28, 29, 30, 31, 32, 33] (by decide +kernel) (by decide +kernel)
set_option maxRecDepth 20000 in
theorem gX1_stands_X1_isPerson : GoodIn wsX1_stands (wsV RX1 80 RX1 yX1_isPerson wsX1_isPerson) := goodIn_app (goodIn_of _ (by decide +kernel)) ggX1_stands_X1_isPerson
set_option maxRecDepth 20000 in
theorem ggX1_stands_X1_personOf : GoodIn wsX1_stands wsX1_personOf := goodIn_r _ [11, 12, 13, 23, 24, 25, 26, 27, 28, 29, 30, 31, 32, 33] (by decide +kernel) (by decide +kernel)
set_option maxRecDepth 20000 in
theorem gX1_stands_X1_personOf : GoodIn wsX1_stands (wsV RX1 73 RX1 yX1_personOf wsX1_personOf) := goodIn_app (goodIn_of _ (by decide +kernel)) ggX1_stands_X1_personOf
theorem dX1_stands_0 : decode cX1_stands 0 = .ok (.aload_n 0, 1) := by decide +kernel
theorem dX1_stands_1 : decode cX1_stands 1 = .ok (.iload_n 1, 1) := by decide +kernel
theorem dX1_stands_2 : decode cX1_stands 2 = .ok (.invokevirtual 80, 3) := by decide +kernel
theorem dX1_stands_5 : decode cX1_stands 5 = .ok (.ifCond .eq 18, 3) := by decide +kernel
theorem dX1_stands_8 : decode cX1_stands 8 = .ok (.aload_n 0, 1) := by decide +kernel
theorem dX1_stands_9 : decode cX1_stands 9 = .ok (.iload_n 1, 1) := by decide +kernel
theorem dX1_stands_10 : decode cX1_stands 10 = .ok (.invokevirtual 73, 3) := by decide +kernel
theorem dX1_stands_13 : decode cX1_stands 13 = .ok (.getfield 84, 3) := by decide +kernel
theorem dX1_stands_16 : decode cX1_stands 16 = .ok (.ifCond .ne 7, 3) := by decide +kernel
theorem dX1_stands_19 : decode cX1_stands 19 = .ok (.iconst 1, 1) := by decide +kernel
theorem dX1_stands_20 : decode cX1_stands 20 = .ok (.goto 4, 3) := by decide +kernel
theorem dX1_stands_23 : decode cX1_stands 23 = .ok (.iconst 0, 1) := by decide +kernel
theorem dX1_stands_24 : decode cX1_stands 24 = .ok (.ireturn, 1) := by decide +kernel
theorem dX1_hasAllLines_0 : decode cX1_hasAllLines 0 = .ok (.aload_n 0, 1) := by decide +kernel
theorem dX1_hasAllLines_1 : decode cX1_hasAllLines 1 = .ok (.getfield 37, 3) := by decide +kernel
theorem dX1_hasAllLines_4 : decode cX1_hasAllLines 4 = .ok (.iconst 3, 1) := by decide +kernel
theorem dX1_hasAllLines_5 : decode cX1_hasAllLines 5 = .ok (.if_icmp .lt 7, 3) := by decide +kernel
theorem dX1_hasAllLines_8 : decode cX1_hasAllLines 8 = .ok (.iconst 1, 1) := by decide +kernel
theorem dX1_hasAllLines_9 : decode cX1_hasAllLines 9 = .ok (.goto 4, 3) := by decide +kernel
theorem dX1_hasAllLines_12 : decode cX1_hasAllLines 12 = .ok (.iconst 0, 1) := by decide +kernel
theorem dX1_hasAllLines_13 : decode cX1_hasAllLines 13 = .ok (.ireturn, 1) := by decide +kernel
theorem dX1_lineOf_0 : decode cX1_lineOf 0 = .ok (.iload_n 1, 1) := by decide +kernel
theorem dX1_lineOf_1 : decode cX1_lineOf 1 = .ok (.ifCond .lt 21, 3) := by decide +kernel
theorem dX1_lineOf_4 : decode cX1_lineOf 4 = .ok (.iload_n 1, 1) := by decide +kernel
theorem dX1_lineOf_5 : decode cX1_lineOf 5 = .ok (.aload_n 0, 1) := by decide +kernel
theorem dX1_lineOf_6 : decode cX1_lineOf 6 = .ok (.getfield 17, 3) := by decide +kernel
theorem dX1_lineOf_9 : decode cX1_lineOf 9 = .ok (.arraylength, 1) := by decide +kernel
theorem dX1_lineOf_10 : decode cX1_lineOf 10 = .ok (.if_icmp .ge 12, 3) := by decide +kernel
theorem dX1_lineOf_13 : decode cX1_lineOf 13 = .ok (.aload_n 0, 1) := by decide +kernel
theorem dX1_lineOf_14 : decode cX1_lineOf 14 = .ok (.getfield 17, 3) := by decide +kernel
theorem dX1_lineOf_17 : decode cX1_lineOf 17 = .ok (.iload_n 1, 1) := by decide +kernel
theorem dX1_lineOf_18 : decode cX1_lineOf 18 = .ok (.aaload, 1) := by decide +kernel
theorem dX1_lineOf_19 : decode cX1_lineOf 19 = .ok (.goto 7, 3) := by decide +kernel
theorem dX1_lineOf_22 : decode cX1_lineOf 22 = .ok (.aload_n 0, 1) := by decide +kernel
theorem dX1_lineOf_23 : decode cX1_lineOf 23 = .ok (.getfield 28, 3) := by decide +kernel
theorem dX1_lineOf_26 : decode cX1_lineOf 26 = .ok (.areturn, 1) := by decide +kernel
theorem dX1_personOf_0 : decode cX1_personOf 0 = .ok (.iload_n 1, 1) := by decide +kernel
theorem dX1_personOf_1 : decode cX1_personOf 1 = .ok (.ifCond .lt 21, 3) := by decide +kernel
theorem dX1_personOf_4 : decode cX1_personOf 4 = .ok (.iload_n 1, 1) := by decide +kernel
theorem dX1_personOf_5 : decode cX1_personOf 5 = .ok (.aload_n 0, 1) := by decide +kernel
theorem dX1_personOf_6 : decode cX1_personOf 6 = .ok (.getfield 23, 3) := by decide +kernel
theorem dX1_personOf_9 : decode cX1_personOf 9 = .ok (.arraylength, 1) := by decide +kernel
theorem dX1_personOf_10 : decode cX1_personOf 10 = .ok (.if_icmp .ge 12, 3) := by decide +kernel
theorem dX1_personOf_13 : decode cX1_personOf 13 = .ok (.aload_n 0, 1) := by decide +kernel
theorem dX1_personOf_14 : decode cX1_personOf 14 = .ok (.getfield 23, 3) := by decide +kernel
theorem dX1_personOf_17 : decode cX1_personOf 17 = .ok (.iload_n 1, 1) := by decide +kernel
theorem dX1_personOf_18 : decode cX1_personOf 18 = .ok (.aaload, 1) := by decide +kernel
theorem dX1_personOf_19 : decode cX1_personOf 19 = .ok (.goto 7, 3) := by decide +kernel
theorem dX1_personOf_22 : decode cX1_personOf 22 = .ok (.aload_n 0, 1) := by decide +kernel
theorem dX1_personOf_23 : decode cX1_personOf 23 = .ok (.getfield 33, 3) := by decide +kernel
theorem dX1_personOf_26 : decode cX1_personOf 26 = .ok (.areturn, 1) := by decide +kernel
set_option maxRecDepth 20000 in
theorem ggX1_placeOf_X1_personOf : GoodIn wsX1_placeOf wsX1_personOf := goodIn_r _ [6, 7, 8, 31, 32, 33, 34, 35, 36, 37, 38, 39, 40, 41] (by decide +kernel) (by decide +kernel)
set_option maxRecDepth 20000 in
theorem gX1_placeOf_X1_personOf : GoodIn wsX1_placeOf (wsV RX1 73 RX1 yX1_personOf wsX1_personOf) := goodIn_app (goodIn_of _ (by decide +kernel)) ggX1_placeOf_X1_personOf
set_option maxRecDepth 20000 in
theorem ggX1_placeOf_X1_lineOf : GoodIn wsX1_placeOf wsX1_lineOf := goodIn_r _ [12, 13, 14, 31, 32, 33, 34, 35, 36, 37, 38, 39, 40, 41] (by decide +kernel) (by decide +kernel)
set_option maxRecDepth 20000 in
theorem gX1_placeOf_X1_lineOf : GoodIn wsX1_placeOf (wsV RX1 65 RX1 yX1_lineOf wsX1_lineOf) := goodIn_app (goodIn_of _ (by decide +kernel)) ggX1_placeOf_X1_lineOf
set_option maxRecDepth 20000 in
theorem ggX1_placeOf_X3_placeOf : GoodIn wsX1_placeOf wsX3_placeOf := goodIn_r _ [19, 20, 21, 42, 43, 44, 45, 46] (by decide +kernel) (by decide +kernel)
set_option maxRecDepth 20000 in
theorem gX1_placeOf_X3_placeOf : GoodIn wsX1_placeOf (wsV RX1 89 RX3 yX3_placeOf wsX3_placeOf) := goodIn_app (goodIn_of _ (by decide +kernel)) ggX1_placeOf_X3_placeOf
theorem dX1_placeOf_0 : decode cX1_placeOf 0 = .ok (.aload_n 0, 1) := by decide +kernel
theorem dX1_placeOf_1 : decode cX1_placeOf 1 = .ok (.aload_n 0, 1) := by decide +kernel
theorem dX1_placeOf_2 : decode cX1_placeOf 2 = .ok (.iload_n 1, 1) := by decide +kernel
theorem dX1_placeOf_3 : decode cX1_placeOf 3 = .ok (.invokevirtual 73, 3) := by decide +kernel
theorem dX1_placeOf_6 : decode cX1_placeOf 6 = .ok (.getfield 87, 3) := by decide +kernel
theorem dX1_placeOf_9 : decode cX1_placeOf 9 = .ok (.invokevirtual 65, 3) := by decide +kernel
theorem dX1_placeOf_12 : decode cX1_placeOf 12 = .ok (.iload_n 1, 1) := by decide +kernel
theorem dX1_placeOf_13 : decode cX1_placeOf 13 = .ok (.invokevirtual 89, 3) := by decide +kernel
theorem dX1_placeOf_16 : decode cX1_placeOf 16 = .ok (.ireturn, 1) := by decide +kernel
theorem dX1_settingOf_0 : decode cX1_settingOf 0 = .ok (.iload_n 1, 1) := by decide +kernel
theorem dX1_settingOf_1 : decode cX1_settingOf 1 = .ok (.ifCond .lt 21, 3) := by decide +kernel
theorem dX1_settingOf_4 : decode cX1_settingOf 4 = .ok (.iload_n 1, 1) := by decide +kernel
theorem dX1_settingOf_5 : decode cX1_settingOf 5 = .ok (.aload_n 0, 1) := by decide +kernel
theorem dX1_settingOf_6 : decode cX1_settingOf 6 = .ok (.getfield 9, 3) := by decide +kernel
theorem dX1_settingOf_9 : decode cX1_settingOf 9 = .ok (.arraylength, 1) := by decide +kernel
theorem dX1_settingOf_10 : decode cX1_settingOf 10 = .ok (.if_icmp .ge 12, 3) := by decide +kernel
theorem dX1_settingOf_13 : decode cX1_settingOf 13 = .ok (.aload_n 0, 1) := by decide +kernel
theorem dX1_settingOf_14 : decode cX1_settingOf 14 = .ok (.getfield 9, 3) := by decide +kernel
theorem dX1_settingOf_17 : decode cX1_settingOf 17 = .ok (.iload_n 1, 1) := by decide +kernel
theorem dX1_settingOf_18 : decode cX1_settingOf 18 = .ok (.iaload, 1) := by decide +kernel
theorem dX1_settingOf_19 : decode cX1_settingOf 19 = .ok (.goto 4, 3) := by decide +kernel
theorem dX1_settingOf_22 : decode cX1_settingOf 22 = .ok (.iconst (-1), 1) := by decide +kernel
theorem dX1_settingOf_23 : decode cX1_settingOf 23 = .ok (.ireturn, 1) := by decide +kernel
set_option maxRecDepth 20000 in
theorem ggX1_total_X1_count : GoodIn wsX1_total wsX1_count := goodIn_r _ [11, 3, 12, 13, 14, 15, 10, 16, 17, 18, 24, 25, 26, 27, 28, 29, 30, 31, 32, 33, 34, 35, 36, 37, 38, 39, 40, 41, 42, 43] (by decide +kernel) (by decide +kernel)
set_option maxRecDepth 20000 in
theorem gX1_total_X1_count : GoodIn wsX1_total (wsV RX1 93 RX1 yX1_count wsX1_count) := goodIn_app (goodIn_of _ (by decide +kernel)) ggX1_total_X1_count
set_option maxRecDepth 20000 in
theorem ggX1_total_X1_sumOfAccounts : GoodIn wsX1_total wsX1_sumOfAccounts := goodIn_r _ [22, 3, 23, 13, 14, 15, 10, 16, 17, 18, 24, 25, 26, 27, 28, 29, 30, 31, 32, 33, 34, 35, 36, 37, 38, 39, 40, 41, 42, 43] (by decide +kernel) (by decide +kernel)
set_option maxRecDepth 20000 in
theorem gX1_total_X1_sumOfAccounts : GoodIn wsX1_total (wsV RX1 96 RX1 yX1_sumOfAccounts wsX1_sumOfAccounts) := goodIn_app (goodIn_of _ (by decide +kernel)) ggX1_total_X1_sumOfAccounts
theorem dX1_total_0 : decode cX1_total 0 = .ok (.iload_n 1, 1) := by decide +kernel
theorem dX1_total_1 : decode cX1_total 1 = .ok (.tableswitch 108 0 9 #[55, 60, 65, 70, 76, 82, 88, 93, 98, 103], 55) := by decide +kernel
theorem dX1_total_56 : decode cX1_total 56 = .ok (.aload_n 0, 1) := by decide +kernel
theorem dX1_total_57 : decode cX1_total 57 = .ok (.getfield 44, 3) := by decide +kernel
theorem dX1_total_60 : decode cX1_total 60 = .ok (.ireturn, 1) := by decide +kernel
theorem dX1_total_61 : decode cX1_total 61 = .ok (.aload_n 0, 1) := by decide +kernel
theorem dX1_total_62 : decode cX1_total 62 = .ok (.getfield 37, 3) := by decide +kernel
theorem dX1_total_65 : decode cX1_total 65 = .ok (.ireturn, 1) := by decide +kernel
theorem dX1_total_66 : decode cX1_total 66 = .ok (.aload_n 0, 1) := by decide +kernel
theorem dX1_total_67 : decode cX1_total 67 = .ok (.getfield 41, 3) := by decide +kernel
theorem dX1_total_70 : decode cX1_total 70 = .ok (.ireturn, 1) := by decide +kernel
theorem dX1_total_71 : decode cX1_total 71 = .ok (.aload_n 0, 1) := by decide +kernel
theorem dX1_total_72 : decode cX1_total 72 = .ok (.iconst 0, 1) := by decide +kernel
theorem dX1_total_73 : decode cX1_total 73 = .ok (.invokevirtual 93, 3) := by decide +kernel
theorem dX1_total_76 : decode cX1_total 76 = .ok (.ireturn, 1) := by decide +kernel
theorem dX1_total_77 : decode cX1_total 77 = .ok (.aload_n 0, 1) := by decide +kernel
theorem dX1_total_78 : decode cX1_total 78 = .ok (.iconst 1, 1) := by decide +kernel
theorem dX1_total_79 : decode cX1_total 79 = .ok (.invokevirtual 93, 3) := by decide +kernel
theorem dX1_total_82 : decode cX1_total 82 = .ok (.ireturn, 1) := by decide +kernel
theorem dX1_total_83 : decode cX1_total 83 = .ok (.aload_n 0, 1) := by decide +kernel
theorem dX1_total_84 : decode cX1_total 84 = .ok (.iconst 2, 1) := by decide +kernel
theorem dX1_total_85 : decode cX1_total 85 = .ok (.invokevirtual 93, 3) := by decide +kernel
theorem dX1_total_88 : decode cX1_total 88 = .ok (.ireturn, 1) := by decide +kernel
theorem dX1_total_89 : decode cX1_total 89 = .ok (.aload_n 0, 1) := by decide +kernel
theorem dX1_total_90 : decode cX1_total 90 = .ok (.getfield 47, 3) := by decide +kernel
theorem dX1_total_93 : decode cX1_total 93 = .ok (.ireturn, 1) := by decide +kernel
theorem dX1_total_94 : decode cX1_total 94 = .ok (.aload_n 0, 1) := by decide +kernel
theorem dX1_total_95 : decode cX1_total 95 = .ok (.getfield 50, 3) := by decide +kernel
theorem dX1_total_98 : decode cX1_total 98 = .ok (.ireturn, 1) := by decide +kernel
theorem dX1_total_99 : decode cX1_total 99 = .ok (.aload_n 0, 1) := by decide +kernel
theorem dX1_total_100 : decode cX1_total 100 = .ok (.getfield 53, 3) := by decide +kernel
theorem dX1_total_103 : decode cX1_total 103 = .ok (.ireturn, 1) := by decide +kernel
theorem dX1_total_104 : decode cX1_total 104 = .ok (.aload_n 0, 1) := by decide +kernel
theorem dX1_total_105 : decode cX1_total 105 = .ok (.invokevirtual 96, 3) := by decide +kernel
theorem dX1_total_108 : decode cX1_total 108 = .ok (.ireturn, 1) := by decide +kernel
theorem dX1_total_109 : decode cX1_total 109 = .ok (.iconst (-1), 1) := by decide +kernel
theorem dX1_total_110 : decode cX1_total 110 = .ok (.ireturn, 1) := by decide +kernel
set_option maxRecDepth 20000 in
theorem ggX1_count_X1_personOf : GoodIn wsX1_count wsX1_personOf := goodIn_r _ [7, 8, 9, 10, 11, 12, 13, 14, 15, 16, 17, 18, 19, 20] (by decide +kernel) (by decide +kernel)
set_option maxRecDepth 20000 in
theorem gX1_count_X1_personOf : GoodIn wsX1_count (wsV RX1 73 RX1 yX1_personOf wsX1_personOf) := goodIn_app (goodIn_of _ (by decide +kernel)) ggX1_count_X1_personOf
theorem dX1_count_0 : decode cX1_count 0 = .ok (.iconst 0, 1) := by decide +kernel
theorem dX1_count_1 : decode cX1_count 1 = .ok (.istore_n 2, 1) := by decide +kernel
theorem dX1_count_2 : decode cX1_count 2 = .ok (.iconst 0, 1) := by decide +kernel
theorem dX1_count_3 : decode cX1_count 3 = .ok (.istore_n 3, 1) := by decide +kernel
theorem dX1_count_4 : decode cX1_count 4 = .ok (.iload_n 3, 1) := by decide +kernel
theorem dX1_count_5 : decode cX1_count 5 = .ok (.aload_n 0, 1) := by decide +kernel
theorem dX1_count_6 : decode cX1_count 6 = .ok (.getfield 41, 3) := by decide +kernel
theorem dX1_count_9 : decode cX1_count 9 = .ok (.if_icmp .ge 24, 3) := by decide +kernel
theorem dX1_count_12 : decode cX1_count 12 = .ok (.aload_n 0, 1) := by decide +kernel
theorem dX1_count_13 : decode cX1_count 13 = .ok (.iload_n 3, 1) := by decide +kernel
theorem dX1_count_14 : decode cX1_count 14 = .ok (.invokevirtual 73, 3) := by decide +kernel
theorem dX1_count_17 : decode cX1_count 17 = .ok (.getfield 84, 3) := by decide +kernel
theorem dX1_count_20 : decode cX1_count 20 = .ok (.iload_n 1, 1) := by decide +kernel
theorem dX1_count_21 : decode cX1_count 21 = .ok (.if_icmp .ne 6, 3) := by decide +kernel
theorem dX1_count_24 : decode cX1_count 24 = .ok (.iinc 2 1, 3) := by decide +kernel
theorem dX1_count_27 : decode cX1_count 27 = .ok (.iinc 3 1, 3) := by decide +kernel
theorem dX1_count_30 : decode cX1_count 30 = .ok (.goto (-26), 3) := by decide +kernel
theorem dX1_count_33 : decode cX1_count 33 = .ok (.iload_n 2, 1) := by decide +kernel
theorem dX1_count_34 : decode cX1_count 34 = .ok (.ireturn, 1) := by decide +kernel
set_option maxRecDepth 20000 in
theorem ggX1_sumOfAccounts_X1_personOf : GoodIn wsX1_sumOfAccounts wsX1_personOf := goodIn_r _ [7, 8, 9, 10, 11, 12, 13, 14, 15, 16, 17, 18, 19, 20] (by decide +kernel) (by decide +kernel)
set_option maxRecDepth 20000 in
theorem gX1_sumOfAccounts_X1_personOf : GoodIn wsX1_sumOfAccounts (wsV RX1 73 RX1 yX1_personOf wsX1_personOf) := goodIn_app (goodIn_of _ (by decide +kernel)) ggX1_sumOfAccounts_X1_personOf
theorem dX1_sumOfAccounts_0 : decode cX1_sumOfAccounts 0 = .ok (.iconst 0, 1) := by decide +kernel
theorem dX1_sumOfAccounts_1 : decode cX1_sumOfAccounts 1 = .ok (.istore_n 1, 1) := by decide +kernel
theorem dX1_sumOfAccounts_2 : decode cX1_sumOfAccounts 2 = .ok (.iconst 0, 1) := by decide +kernel
theorem dX1_sumOfAccounts_3 : decode cX1_sumOfAccounts 3 = .ok (.istore_n 2, 1) := by decide +kernel
theorem dX1_sumOfAccounts_4 : decode cX1_sumOfAccounts 4 = .ok (.iload_n 2, 1) := by decide +kernel
theorem dX1_sumOfAccounts_5 : decode cX1_sumOfAccounts 5 = .ok (.aload_n 0, 1) := by decide +kernel
theorem dX1_sumOfAccounts_6 : decode cX1_sumOfAccounts 6 = .ok (.getfield 41, 3) := by decide +kernel
theorem dX1_sumOfAccounts_9 : decode cX1_sumOfAccounts 9 = .ok (.if_icmp .ge 20, 3) := by decide +kernel
theorem dX1_sumOfAccounts_12 : decode cX1_sumOfAccounts 12 = .ok (.iload_n 1, 1) := by decide +kernel
theorem dX1_sumOfAccounts_13 : decode cX1_sumOfAccounts 13 = .ok (.aload_n 0, 1) := by decide +kernel
theorem dX1_sumOfAccounts_14 : decode cX1_sumOfAccounts 14 = .ok (.iload_n 2, 1) := by decide +kernel
theorem dX1_sumOfAccounts_15 : decode cX1_sumOfAccounts 15 = .ok (.invokevirtual 73, 3) := by decide +kernel
theorem dX1_sumOfAccounts_18 : decode cX1_sumOfAccounts 18 = .ok (.getfield 100, 3) := by decide +kernel
theorem dX1_sumOfAccounts_21 : decode cX1_sumOfAccounts 21 = .ok (.iadd, 1) := by decide +kernel
theorem dX1_sumOfAccounts_22 : decode cX1_sumOfAccounts 22 = .ok (.istore_n 1, 1) := by decide +kernel
theorem dX1_sumOfAccounts_23 : decode cX1_sumOfAccounts 23 = .ok (.iinc 2 1, 3) := by decide +kernel
theorem dX1_sumOfAccounts_26 : decode cX1_sumOfAccounts 26 = .ok (.goto (-22), 3) := by decide +kernel
theorem dX1_sumOfAccounts_29 : decode cX1_sumOfAccounts 29 = .ok (.iload_n 1, 1) := by decide +kernel
theorem dX1_sumOfAccounts_30 : decode cX1_sumOfAccounts 30 = .ok (.ireturn, 1) := by decide +kernel
set_option maxRecDepth 20000 in
theorem ggX1_numberOfLine_X1_lineOf : GoodIn wsX1_numberOfLine wsX1_lineOf := goodIn_r _ [9, 10, 11, 39, 40, 41, 42, 43, 44, 45, 46, 47, 48, 49] (by decide +kernel) (by decide +kernel)
set_option maxRecDepth 20000 in
theorem gX1_numberOfLine_X1_lineOf : GoodIn wsX1_numberOfLine (wsV RX1 65 RX1 yX1_lineOf wsX1_lineOf) := goodIn_app (goodIn_of _ (by decide +kernel)) ggX1_numberOfLine_X1_lineOf
set_option maxRecDepth 20000 in
theorem ggX1_numberOfLine_X1_stoodTogether : GoodIn wsX1_numberOfLine wsX1_stoodTogether := goodIn_r _ [15, 2, 16, 17, 18, 19, 20, 21, 22, 23, 24, 25, 26, 27, 28, 29, 30, 8, 31, 32, 33, 34, 35, 36, 37, 38, 50, 51, 52, 53, 54, 55, 56, 57, 58, 39, 40, 41, 42, 43, 44, 45, 46, 47, 48, 49] (by decide +kernel) (by decide +kernel)
set_option maxRecDepth 20000 in
theorem gX1_numberOfLine_X1_stoodTogether : GoodIn wsX1_numberOfLine (wsV RX1 115 RX1 yX1_stoodTogether wsX1_stoodTogether) := goodIn_app (goodIn_of _ (by decide +kernel)) ggX1_numberOfLine_X1_stoodTogether
theorem dX1_numberOfLine_0 : decode cX1_numberOfLine 0 = .ok (.aload_n 0, 1) := by decide +kernel
theorem dX1_numberOfLine_1 : decode cX1_numberOfLine 1 = .ok (.iload_n 1, 1) := by decide +kernel
theorem dX1_numberOfLine_2 : decode cX1_numberOfLine 2 = .ok (.invokevirtual 65, 3) := by decide +kernel
theorem dX1_numberOfLine_5 : decode cX1_numberOfLine 5 = .ok (.astore_n 3, 1) := by decide +kernel
theorem dX1_numberOfLine_6 : decode cX1_numberOfLine 6 = .ok (.iload_n 2, 1) := by decide +kernel
theorem dX1_numberOfLine_7 : decode cX1_numberOfLine 7 = .ok (.tableswitch 59 0 4 #[33, 38, 43, 48, 53], 33) := by decide +kernel
theorem dX1_numberOfLine_40 : decode cX1_numberOfLine 40 = .ok (.aload_n 3, 1) := by decide +kernel
theorem dX1_numberOfLine_41 : decode cX1_numberOfLine 41 = .ok (.getfield 103, 3) := by decide +kernel
theorem dX1_numberOfLine_44 : decode cX1_numberOfLine 44 = .ok (.ireturn, 1) := by decide +kernel
theorem dX1_numberOfLine_45 : decode cX1_numberOfLine 45 = .ok (.aload_n 3, 1) := by decide +kernel
theorem dX1_numberOfLine_46 : decode cX1_numberOfLine 46 = .ok (.getfield 106, 3) := by decide +kernel
theorem dX1_numberOfLine_49 : decode cX1_numberOfLine 49 = .ok (.ireturn, 1) := by decide +kernel
theorem dX1_numberOfLine_50 : decode cX1_numberOfLine 50 = .ok (.aload_n 3, 1) := by decide +kernel
theorem dX1_numberOfLine_51 : decode cX1_numberOfLine 51 = .ok (.getfield 109, 3) := by decide +kernel
theorem dX1_numberOfLine_54 : decode cX1_numberOfLine 54 = .ok (.ireturn, 1) := by decide +kernel
theorem dX1_numberOfLine_55 : decode cX1_numberOfLine 55 = .ok (.aload_n 3, 1) := by decide +kernel
theorem dX1_numberOfLine_56 : decode cX1_numberOfLine 56 = .ok (.getfield 112, 3) := by decide +kernel
theorem dX1_numberOfLine_59 : decode cX1_numberOfLine 59 = .ok (.ireturn, 1) := by decide +kernel
theorem dX1_numberOfLine_60 : decode cX1_numberOfLine 60 = .ok (.aload_n 0, 1) := by decide +kernel
theorem dX1_numberOfLine_61 : decode cX1_numberOfLine 61 = .ok (.aload_n 3, 1) := by decide +kernel
theorem dX1_numberOfLine_62 : decode cX1_numberOfLine 62 = .ok (.invokevirtual 115, 3) := by decide +kernel
theorem dX1_numberOfLine_65 : decode cX1_numberOfLine 65 = .ok (.ireturn, 1) := by decide +kernel
theorem dX1_numberOfLine_66 : decode cX1_numberOfLine 66 = .ok (.iconst (-1), 1) := by decide +kernel
theorem dX1_numberOfLine_67 : decode cX1_numberOfLine 67 = .ok (.ireturn, 1) := by decide +kernel
set_option maxRecDepth 20000 in
theorem ggX1_stoodTogether_X3_who : GoodIn wsX1_stoodTogether wsX3_who := goodIn_r _ [7, 8, 9, 10, 11, 6, 12, 13, 21, 22, 23, 24, 25] (by decide +kernel) (by decide +kernel)
set_option maxRecDepth 20000 in
theorem gX1_stoodTogether_X3_who : GoodIn wsX1_stoodTogether (wsV RX1 119 RX3 yX3_who wsX3_who) := goodIn_app (goodIn_of _ (by decide +kernel)) ggX1_stoodTogether_X3_who
set_option maxRecDepth 20000 in
theorem ggX1_stoodTogether_X1_personOf : GoodIn wsX1_stoodTogether wsX1_personOf := goodIn_r _ [18, 19, 20, 35, 36, 37, 38, 39, 40, 41, 42, 43, 44, 45] (by decide +kernel) (by decide +kernel)
set_option maxRecDepth 20000 in
theorem gX1_stoodTogether_X1_personOf : GoodIn wsX1_stoodTogether (wsV RX1 73 RX1 yX1_personOf wsX1_personOf) := goodIn_app (goodIn_of _ (by decide +kernel)) ggX1_stoodTogether_X1_personOf
theorem dX1_stoodTogether_0 : decode cX1_stoodTogether 0 = .ok (.iconst 0, 1) := by decide +kernel
theorem dX1_stoodTogether_1 : decode cX1_stoodTogether 1 = .ok (.istore_n 2, 1) := by decide +kernel
theorem dX1_stoodTogether_2 : decode cX1_stoodTogether 2 = .ok (.iconst 0, 1) := by decide +kernel
theorem dX1_stoodTogether_3 : decode cX1_stoodTogether 3 = .ok (.istore_n 3, 1) := by decide +kernel
theorem dX1_stoodTogether_4 : decode cX1_stoodTogether 4 = .ok (.iload_n 3, 1) := by decide +kernel
theorem dX1_stoodTogether_5 : decode cX1_stoodTogether 5 = .ok (.aload_n 1, 1) := by decide +kernel
theorem dX1_stoodTogether_6 : decode cX1_stoodTogether 6 = .ok (.getfield 106, 3) := by decide +kernel
theorem dX1_stoodTogether_9 : decode cX1_stoodTogether 9 = .ok (.if_icmp .ge 24, 3) := by decide +kernel
theorem dX1_stoodTogether_12 : decode cX1_stoodTogether 12 = .ok (.iload_n 2, 1) := by decide +kernel
theorem dX1_stoodTogether_13 : decode cX1_stoodTogether 13 = .ok (.aload_n 0, 1) := by decide +kernel
theorem dX1_stoodTogether_14 : decode cX1_stoodTogether 14 = .ok (.aload_n 1, 1) := by decide +kernel
theorem dX1_stoodTogether_15 : decode cX1_stoodTogether 15 = .ok (.iload_n 3, 1) := by decide +kernel
theorem dX1_stoodTogether_16 : decode cX1_stoodTogether 16 = .ok (.invokevirtual 119, 3) := by decide +kernel
theorem dX1_stoodTogether_19 : decode cX1_stoodTogether 19 = .ok (.invokevirtual 73, 3) := by decide +kernel
theorem dX1_stoodTogether_22 : decode cX1_stoodTogether 22 = .ok (.getfield 122, 3) := by decide +kernel
theorem dX1_stoodTogether_25 : decode cX1_stoodTogether 25 = .ok (.iadd, 1) := by decide +kernel
theorem dX1_stoodTogether_26 : decode cX1_stoodTogether 26 = .ok (.istore_n 2, 1) := by decide +kernel
theorem dX1_stoodTogether_27 : decode cX1_stoodTogether 27 = .ok (.iinc 3 1, 3) := by decide +kernel
theorem dX1_stoodTogether_30 : decode cX1_stoodTogether 30 = .ok (.goto (-26), 3) := by decide +kernel
theorem dX1_stoodTogether_33 : decode cX1_stoodTogether 33 = .ok (.iload_n 2, 1) := by decide +kernel
theorem dX1_stoodTogether_34 : decode cX1_stoodTogether 34 = .ok (.ireturn, 1) := by decide +kernel
set_option maxRecDepth 20000 in
theorem ggX1_numberOfPerson_X1_personOf : GoodIn wsX1_numberOfPerson wsX1_personOf := goodIn_r _ [13, 14, 15, 42, 43, 44, 45, 46, 47, 48, 49, 50, 51, 52] (by decide +kernel) (by decide +kernel)
set_option maxRecDepth 20000 in
theorem gX1_numberOfPerson_X1_personOf : GoodIn wsX1_numberOfPerson (wsV RX1 73 RX1 yX1_personOf wsX1_personOf) := goodIn_app (goodIn_of _ (by decide +kernel)) ggX1_numberOfPerson_X1_personOf
set_option maxRecDepth 20000 in
theorem ggX1_numberOfPerson_X1_placeOf : GoodIn wsX1_numberOfPerson wsX1_placeOf := goodIn_r _ [19, 2, 9, 10, 11, 12, 13, 14, 15, 20, 21, 22, 23, 24, 25, 26, 27, 28, 29, 30, 31, 32, 33, 34, 35, 36, 37, 38, 39, 40, 41, 42, 43, 44, 45, 46, 47, 48, 49, 50, 51, 52, 53, 54, 55, 56, 57] (by decide +kernel) (by decide +kernel)
set_option maxRecDepth 20000 in
theorem gX1_numberOfPerson_X1_placeOf : GoodIn wsX1_numberOfPerson (wsV RX1 128 RX1 yX1_placeOf wsX1_placeOf) := goodIn_app (goodIn_of _ (by decide +kernel)) ggX1_numberOfPerson_X1_placeOf
theorem dX1_numberOfPerson_0 : decode cX1_numberOfPerson 0 = .ok (.aload_n 0, 1) := by decide +kernel
theorem dX1_numberOfPerson_1 : decode cX1_numberOfPerson 1 = .ok (.iload_n 1, 1) := by decide +kernel
theorem dX1_numberOfPerson_2 : decode cX1_numberOfPerson 2 = .ok (.invokevirtual 73, 3) := by decide +kernel
theorem dX1_numberOfPerson_5 : decode cX1_numberOfPerson 5 = .ok (.astore_n 3, 1) := by decide +kernel
theorem dX1_numberOfPerson_6 : decode cX1_numberOfPerson 6 = .ok (.iload_n 2, 1) := by decide +kernel
theorem dX1_numberOfPerson_7 : decode cX1_numberOfPerson 7 = .ok (.tableswitch 95 0 8 #[49, 54, 59, 65, 70, 75, 80, 85, 90], 49) := by decide +kernel
theorem dX1_numberOfPerson_56 : decode cX1_numberOfPerson 56 = .ok (.aload_n 3, 1) := by decide +kernel
theorem dX1_numberOfPerson_57 : decode cX1_numberOfPerson 57 = .ok (.getfield 125, 3) := by decide +kernel
theorem dX1_numberOfPerson_60 : decode cX1_numberOfPerson 60 = .ok (.ireturn, 1) := by decide +kernel
theorem dX1_numberOfPerson_61 : decode cX1_numberOfPerson 61 = .ok (.aload_n 3, 1) := by decide +kernel
theorem dX1_numberOfPerson_62 : decode cX1_numberOfPerson 62 = .ok (.getfield 87, 3) := by decide +kernel
theorem dX1_numberOfPerson_65 : decode cX1_numberOfPerson 65 = .ok (.ireturn, 1) := by decide +kernel
theorem dX1_numberOfPerson_66 : decode cX1_numberOfPerson 66 = .ok (.aload_n 0, 1) := by decide +kernel
theorem dX1_numberOfPerson_67 : decode cX1_numberOfPerson 67 = .ok (.iload_n 1, 1) := by decide +kernel
theorem dX1_numberOfPerson_68 : decode cX1_numberOfPerson 68 = .ok (.invokevirtual 128, 3) := by decide +kernel
theorem dX1_numberOfPerson_71 : decode cX1_numberOfPerson 71 = .ok (.ireturn, 1) := by decide +kernel
theorem dX1_numberOfPerson_72 : decode cX1_numberOfPerson 72 = .ok (.aload_n 3, 1) := by decide +kernel
theorem dX1_numberOfPerson_73 : decode cX1_numberOfPerson 73 = .ok (.getfield 122, 3) := by decide +kernel
theorem dX1_numberOfPerson_76 : decode cX1_numberOfPerson 76 = .ok (.ireturn, 1) := by decide +kernel
theorem dX1_numberOfPerson_77 : decode cX1_numberOfPerson 77 = .ok (.aload_n 3, 1) := by decide +kernel
theorem dX1_numberOfPerson_78 : decode cX1_numberOfPerson 78 = .ok (.getfield 100, 3) := by decide +kernel
theorem dX1_numberOfPerson_81 : decode cX1_numberOfPerson 81 = .ok (.ireturn, 1) := by decide +kernel
theorem dX1_numberOfPerson_82 : decode cX1_numberOfPerson 82 = .ok (.aload_n 3, 1) := by decide +kernel
theorem dX1_numberOfPerson_83 : decode cX1_numberOfPerson 83 = .ok (.getfield 129, 3) := by decide +kernel
theorem dX1_numberOfPerson_86 : decode cX1_numberOfPerson 86 = .ok (.ireturn, 1) := by decide +kernel
theorem dX1_numberOfPerson_87 : decode cX1_numberOfPerson 87 = .ok (.aload_n 3, 1) := by decide +kernel
theorem dX1_numberOfPerson_88 : decode cX1_numberOfPerson 88 = .ok (.getfield 84, 3) := by decide +kernel
theorem dX1_numberOfPerson_91 : decode cX1_numberOfPerson 91 = .ok (.ireturn, 1) := by decide +kernel
theorem dX1_numberOfPerson_92 : decode cX1_numberOfPerson 92 = .ok (.aload_n 3, 1) := by decide +kernel
theorem dX1_numberOfPerson_93 : decode cX1_numberOfPerson 93 = .ok (.getfield 132, 3) := by decide +kernel
theorem dX1_numberOfPerson_96 : decode cX1_numberOfPerson 96 = .ok (.ireturn, 1) := by decide +kernel
theorem dX1_numberOfPerson_97 : decode cX1_numberOfPerson 97 = .ok (.aload_n 3, 1) := by decide +kernel
theorem dX1_numberOfPerson_98 : decode cX1_numberOfPerson 98 = .ok (.getfield 135, 3) := by decide +kernel
theorem dX1_numberOfPerson_101 : decode cX1_numberOfPerson 101 = .ok (.ireturn, 1) := by decide +kernel
theorem dX1_numberOfPerson_102 : decode cX1_numberOfPerson 102 = .ok (.iconst (-1), 1) := by decide +kernel
theorem dX1_numberOfPerson_103 : decode cX1_numberOfPerson 103 = .ok (.ireturn, 1) := by decide +kernel
set_option maxRecDepth 20000 in
theorem ggX1_addLine_X1_hasAllLines : GoodIn wsX1_addLine wsX1_hasAllLines := goodIn_r _ [6, 1, 22, 23, 24, 25, 26, 27, 28, 29, 30, 31, 32] (by decide +kernel) (by decide +kernel)
set_option maxRecDepth 20000 in
theorem gX1_addLine_X1_hasAllLines : GoodIn wsX1_addLine (wsV RX1 138 RX1 yX1_hasAllLines wsX1_hasAllLines) := goodIn_app (goodIn_of _ (by decide +kernel)) ggX1_addLine_X1_hasAllLines
set_option maxRecDepth 20000 in
theorem ggX1_addLine_X1_lineOf : GoodIn wsX1_addLine wsX1_lineOf := goodIn_r _ [10, 11, 12, 22, 23, 24, 25, 26, 27, 28, 29, 30, 31, 32] (by decide +kernel) (by decide +kernel)
set_option maxRecDepth 20000 in
theorem gX1_addLine_X1_lineOf : GoodIn wsX1_addLine (wsV RX1 65 RX1 yX1_lineOf wsX1_lineOf) := goodIn_app (goodIn_of _ (by decide +kernel)) ggX1_addLine_X1_lineOf
set_option maxRecDepth 20000 in
theorem ggX1_addLine_X3_begin : GoodIn wsX1_addLine wsX3_begin := goodIn_r _ [17, 18, 19, 20, 21, 33, 34, 35, 36, 37] (by decide +kernel) (by decide +kernel)
set_option maxRecDepth 20000 in
theorem gX1_addLine_X3_begin : GoodIn wsX1_addLine (wsV RX1 142 RX3 yX3_begin wsX3_begin) := goodIn_app (goodIn_of _ (by decide +kernel)) ggX1_addLine_X3_begin
theorem dX1_addLine_0 : decode cX1_addLine 0 = .ok (.aload_n 0, 1) := by decide +kernel
theorem dX1_addLine_1 : decode cX1_addLine 1 = .ok (.invokevirtual 138, 3) := by decide +kernel
theorem dX1_addLine_4 : decode cX1_addLine 4 = .ok (.ifCond .eq 5, 3) := by decide +kernel
theorem dX1_addLine_7 : decode cX1_addLine 7 = .ok (.iconst (-1), 1) := by decide +kernel
theorem dX1_addLine_8 : decode cX1_addLine 8 = .ok (.ireturn, 1) := by decide +kernel
theorem dX1_addLine_9 : decode cX1_addLine 9 = .ok (.aload_n 0, 1) := by decide +kernel
theorem dX1_addLine_10 : decode cX1_addLine 10 = .ok (.aload_n 0, 1) := by decide +kernel
theorem dX1_addLine_11 : decode cX1_addLine 11 = .ok (.getfield 37, 3) := by decide +kernel
theorem dX1_addLine_14 : decode cX1_addLine 14 = .ok (.invokevirtual 65, 3) := by decide +kernel
theorem dX1_addLine_17 : decode cX1_addLine 17 = .ok (.iload_n 1, 1) := by decide +kernel
theorem dX1_addLine_18 : decode cX1_addLine 18 = .ok (.invokevirtual 142, 3) := by decide +kernel
theorem dX1_addLine_21 : decode cX1_addLine 21 = .ok (.aload_n 0, 1) := by decide +kernel
theorem dX1_addLine_22 : decode cX1_addLine 22 = .ok (.dup, 1) := by decide +kernel
theorem dX1_addLine_23 : decode cX1_addLine 23 = .ok (.getfield 37, 3) := by decide +kernel
theorem dX1_addLine_26 : decode cX1_addLine 26 = .ok (.iconst 1, 1) := by decide +kernel
theorem dX1_addLine_27 : decode cX1_addLine 27 = .ok (.iadd, 1) := by decide +kernel
theorem dX1_addLine_28 : decode cX1_addLine 28 = .ok (.putfield 37, 3) := by decide +kernel
theorem dX1_addLine_31 : decode cX1_addLine 31 = .ok (.aload_n 0, 1) := by decide +kernel
theorem dX1_addLine_32 : decode cX1_addLine 32 = .ok (.getfield 37, 3) := by decide +kernel
theorem dX1_addLine_35 : decode cX1_addLine 35 = .ok (.iconst 1, 1) := by decide +kernel
theorem dX1_addLine_36 : decode cX1_addLine 36 = .ok (.isub, 1) := by decide +kernel
theorem dX1_addLine_37 : decode cX1_addLine 37 = .ok (.ireturn, 1) := by decide +kernel
set_option maxRecDepth 20000 in
theorem ggX1_mayEnter_X1_isLine : GoodIn wsX1_mayEnter wsX1_isLine := goodIn_r _ [7, 8, 18, 19, 20, 21, 22, 23, 24, 25, 26, 27, 28] (by decide +kernel) (by decide +kernel)
set_option maxRecDepth 20000 in
theorem gX1_mayEnter_X1_isLine : GoodIn wsX1_mayEnter (wsV RX1 146 RX1 yX1_isLine wsX1_isLine) := goodIn_app (goodIn_of _ (by decide +kernel)) ggX1_mayEnter_X1_isLine
set_option maxRecDepth 20000 in
theorem ggX1_mayEnter_X5_isKind : GoodIn wsX1_mayEnter wsX5_isKind := goodIn_r _ [11] (by decide +kernel) (by decide +kernel)
set_option maxRecDepth 20000 in
theorem gX1_mayEnter_X5_isKind_n149 : GoodIn wsX1_mayEnter (wsX5_isKind) := ggX1_mayEnter_X5_isKind
set_option maxRecDepth 20000 in
theorem ggX1_mayEnter_X1_lineOf : GoodIn wsX1_mayEnter wsX1_lineOf := goodIn_r _ [15, 16, 17, 18, 19, 20, 21, 22, 23, 24, 25, 26, 27, 28] (by decide +kernel) (by decide +kernel)
set_option maxRecDepth 20000 in
theorem gX1_mayEnter_X1_lineOf : GoodIn wsX1_mayEnter (wsV RX1 65 RX1 yX1_lineOf wsX1_lineOf) := goodIn_app (goodIn_of _ (by decide +kernel)) ggX1_mayEnter_X1_lineOf
theorem dX1_mayEnter_0 : decode cX1_mayEnter 0 = .ok (.aload_n 0, 1) := by decide +kernel
theorem dX1_mayEnter_1 : decode cX1_mayEnter 1 = .ok (.iload_n 1, 1) := by decide +kernel
theorem dX1_mayEnter_2 : decode cX1_mayEnter 2 = .ok (.invokevirtual 146, 3) := by decide +kernel
theorem dX1_mayEnter_5 : decode cX1_mayEnter 5 = .ok (.ifCond .eq 36, 3) := by decide +kernel
theorem dX1_mayEnter_8 : decode cX1_mayEnter 8 = .ok (.iload_n 2, 1) := by decide +kernel
theorem dX1_mayEnter_9 : decode cX1_mayEnter 9 = .ok (.invokestatic 149, 3) := by decide +kernel
theorem dX1_mayEnter_12 : decode cX1_mayEnter 12 = .ok (.ifCond .eq 29, 3) := by decide +kernel
theorem dX1_mayEnter_15 : decode cX1_mayEnter 15 = .ok (.aload_n 0, 1) := by decide +kernel
theorem dX1_mayEnter_16 : decode cX1_mayEnter 16 = .ok (.getfield 41, 3) := by decide +kernel
theorem dX1_mayEnter_19 : decode cX1_mayEnter 19 = .ok (.bipush 30, 2) := by decide +kernel
theorem dX1_mayEnter_21 : decode cX1_mayEnter 21 = .ok (.if_icmp .ge 20, 3) := by decide +kernel
theorem dX1_mayEnter_24 : decode cX1_mayEnter 24 = .ok (.aload_n 0, 1) := by decide +kernel
theorem dX1_mayEnter_25 : decode cX1_mayEnter 25 = .ok (.iload_n 1, 1) := by decide +kernel
theorem dX1_mayEnter_26 : decode cX1_mayEnter 26 = .ok (.invokevirtual 65, 3) := by decide +kernel
theorem dX1_mayEnter_29 : decode cX1_mayEnter 29 = .ok (.getfield 106, 3) := by decide +kernel
theorem dX1_mayEnter_32 : decode cX1_mayEnter 32 = .ok (.bipush 12, 2) := by decide +kernel
theorem dX1_mayEnter_34 : decode cX1_mayEnter 34 = .ok (.if_icmp .ge 7, 3) := by decide +kernel
theorem dX1_mayEnter_37 : decode cX1_mayEnter 37 = .ok (.iconst 1, 1) := by decide +kernel
theorem dX1_mayEnter_38 : decode cX1_mayEnter 38 = .ok (.goto 4, 3) := by decide +kernel
theorem dX1_mayEnter_41 : decode cX1_mayEnter 41 = .ok (.iconst 0, 1) := by decide +kernel
theorem dX1_mayEnter_42 : decode cX1_mayEnter 42 = .ok (.ireturn, 1) := by decide +kernel
set_option maxRecDepth 20000 in
theorem ggX1_enter_X1_mayEnter : GoodIn wsX1_enter wsX1_mayEnter := goodIn_r _ [7, 1, 8, 9, 10, 11, 6, 12, 13, 14, 15, 16, 17, 18, 19, 20, 21, 22, 50, 51, 52, 53, 54, 55, 56, 57, 58, 59, 60, 61, 62, 63, 64, 65] (by decide +kernel) (by decide +kernel)
set_option maxRecDepth 20000 in
theorem gX1_enter_X1_mayEnter : GoodIn wsX1_enter (wsV RX1 152 RX1 yX1_mayEnter wsX1_mayEnter) := goodIn_app (goodIn_of _ (by decide +kernel)) ggX1_enter_X1_mayEnter
set_option maxRecDepth 20000 in
theorem ggX1_enter_X1_personOf : GoodIn wsX1_enter wsX1_personOf := goodIn_r _ [26, 27, 28, 50, 51, 52, 53, 54, 55, 56, 57, 58, 59, 60] (by decide +kernel) (by decide +kernel)
set_option maxRecDepth 20000 in
theorem gX1_enter_X1_personOf : GoodIn wsX1_enter (wsV RX1 73 RX1 yX1_personOf wsX1_personOf) := goodIn_app (goodIn_of _ (by decide +kernel)) ggX1_enter_X1_personOf
set_option maxRecDepth 20000 in
theorem ggX1_enter_X4_enter : GoodIn wsX1_enter wsX4_enter := goodIn_r _ [33, 34, 35, 36, 37, 38, 39, 40, 41, 42, 66, 67, 68, 69, 70, 71, 72, 73, 74] (by decide +kernel) (by decide +kernel)
set_option maxRecDepth 20000 in
theorem gX1_enter_X4_enter : GoodIn wsX1_enter (wsV RX1 156 RX4 yX4_enter wsX4_enter) := goodIn_app (goodIn_of _ (by decide +kernel)) ggX1_enter_X4_enter
set_option maxRecDepth 20000 in
theorem ggX1_enter_X1_lineOf : GoodIn wsX1_enter wsX1_lineOf := goodIn_r _ [20, 21, 22, 50, 51, 52, 53, 54, 55, 56, 57, 58, 59, 60] (by decide +kernel) (by decide +kernel)
set_option maxRecDepth 20000 in
theorem gX1_enter_X1_lineOf : GoodIn wsX1_enter (wsV RX1 65 RX1 yX1_lineOf wsX1_lineOf) := goodIn_app (goodIn_of _ (by decide +kernel)) ggX1_enter_X1_lineOf
set_option maxRecDepth 20000 in
theorem ggX1_enter_X3_add : GoodIn wsX1_enter wsX3_add := goodIn_r _ [47, 48, 49, 61, 62, 63, 64, 65] (by decide +kernel) (by decide +kernel)
set_option maxRecDepth 20000 in
theorem gX1_enter_X3_add : GoodIn wsX1_enter (wsV RX1 160 RX3 yX3_add wsX3_add) := goodIn_app (goodIn_of _ (by decide +kernel)) ggX1_enter_X3_add
theorem dX1_enter_0 : decode cX1_enter 0 = .ok (.aload_n 0, 1) := by decide +kernel
theorem dX1_enter_1 : decode cX1_enter 1 = .ok (.iload_n 1, 1) := by decide +kernel
theorem dX1_enter_2 : decode cX1_enter 2 = .ok (.iload_n 2, 1) := by decide +kernel
theorem dX1_enter_3 : decode cX1_enter 3 = .ok (.invokevirtual 152, 3) := by decide +kernel
theorem dX1_enter_6 : decode cX1_enter 6 = .ok (.ifCond .ne 5, 3) := by decide +kernel
theorem dX1_enter_9 : decode cX1_enter 9 = .ok (.iconst (-1), 1) := by decide +kernel
theorem dX1_enter_10 : decode cX1_enter 10 = .ok (.ireturn, 1) := by decide +kernel
theorem dX1_enter_11 : decode cX1_enter 11 = .ok (.aload_n 0, 1) := by decide +kernel
theorem dX1_enter_12 : decode cX1_enter 12 = .ok (.getfield 41, 3) := by decide +kernel
theorem dX1_enter_15 : decode cX1_enter 15 = .ok (.istore_n 3, 1) := by decide +kernel
theorem dX1_enter_16 : decode cX1_enter 16 = .ok (.aload_n 0, 1) := by decide +kernel
theorem dX1_enter_17 : decode cX1_enter 17 = .ok (.dup, 1) := by decide +kernel
theorem dX1_enter_18 : decode cX1_enter 18 = .ok (.getfield 41, 3) := by decide +kernel
theorem dX1_enter_21 : decode cX1_enter 21 = .ok (.iconst 1, 1) := by decide +kernel
theorem dX1_enter_22 : decode cX1_enter 22 = .ok (.iadd, 1) := by decide +kernel
theorem dX1_enter_23 : decode cX1_enter 23 = .ok (.putfield 41, 3) := by decide +kernel
theorem dX1_enter_26 : decode cX1_enter 26 = .ok (.aload_n 0, 1) := by decide +kernel
theorem dX1_enter_27 : decode cX1_enter 27 = .ok (.iload_n 3, 1) := by decide +kernel
theorem dX1_enter_28 : decode cX1_enter 28 = .ok (.invokevirtual 73, 3) := by decide +kernel
theorem dX1_enter_31 : decode cX1_enter 31 = .ok (.iload_n 2, 1) := by decide +kernel
theorem dX1_enter_32 : decode cX1_enter 32 = .ok (.iload_n 1, 1) := by decide +kernel
theorem dX1_enter_33 : decode cX1_enter 33 = .ok (.aload_n 0, 1) := by decide +kernel
theorem dX1_enter_34 : decode cX1_enter 34 = .ok (.getfield 44, 3) := by decide +kernel
theorem dX1_enter_37 : decode cX1_enter 37 = .ok (.invokevirtual 156, 3) := by decide +kernel
theorem dX1_enter_40 : decode cX1_enter 40 = .ok (.aload_n 0, 1) := by decide +kernel
theorem dX1_enter_41 : decode cX1_enter 41 = .ok (.iload_n 1, 1) := by decide +kernel
theorem dX1_enter_42 : decode cX1_enter 42 = .ok (.invokevirtual 65, 3) := by decide +kernel
theorem dX1_enter_45 : decode cX1_enter 45 = .ok (.iload_n 3, 1) := by decide +kernel
theorem dX1_enter_46 : decode cX1_enter 46 = .ok (.invokevirtual 160, 3) := by decide +kernel
theorem dX1_enter_49 : decode cX1_enter 49 = .ok (.iload_n 3, 1) := by decide +kernel
theorem dX1_enter_50 : decode cX1_enter 50 = .ok (.ireturn, 1) := by decide +kernel
set_option maxRecDepth 20000 in
theorem ggX1_leave_X1_stands : GoodIn wsX1_leave wsX1_stands := goodIn_r _ [7, 8, 9, 10, 11, 6, 12, 13, 14, 15, 16, 17, 18, 19, 52, 53, 54, 55, 56, 57, 58, 59, 60, 61, 62, 63, 64, 65, 66, 67, 68, 69, 70, 71] (by decide +kernel) (by decide +kernel)
set_option maxRecDepth 20000 in
theorem gX1_leave_X1_stands : GoodIn wsX1_leave (wsV RX1 163 RX1 yX1_stands wsX1_stands) := goodIn_app (goodIn_of _ (by decide +kernel)) ggX1_leave_X1_stands
set_option maxRecDepth 20000 in
theorem ggX1_leave_X1_personOf : GoodIn wsX1_leave wsX1_personOf := goodIn_r _ [17, 18, 19, 61, 62, 63, 64, 65, 66, 67, 68, 69, 70, 71] (by decide +kernel) (by decide +kernel)
set_option maxRecDepth 20000 in
theorem gX1_leave_X1_personOf : GoodIn wsX1_leave (wsV RX1 73 RX1 yX1_personOf wsX1_personOf) := goodIn_app (goodIn_of _ (by decide +kernel)) ggX1_leave_X1_personOf
set_option maxRecDepth 20000 in
theorem ggX1_leave_X1_lineOf : GoodIn wsX1_leave wsX1_lineOf := goodIn_r _ [23, 24, 25, 61, 62, 63, 64, 65, 66, 67, 68, 69, 70, 71] (by decide +kernel) (by decide +kernel)
set_option maxRecDepth 20000 in
theorem gX1_leave_X1_lineOf : GoodIn wsX1_leave (wsV RX1 65 RX1 yX1_lineOf wsX1_lineOf) := goodIn_app (goodIn_of _ (by decide +kernel)) ggX1_leave_X1_lineOf
set_option maxRecDepth 20000 in
theorem ggX1_leave_X1_placeOf : GoodIn wsX1_leave wsX1_placeOf := goodIn_r _ [29, 1, 14, 15, 16, 6, 17, 18, 19, 20, 21, 22, 23, 24, 25, 30, 31, 32, 33, 34, 35, 36, 52, 53, 54, 55, 56, 57, 58, 59, 60, 61, 62, 63, 64, 65, 66, 67, 68, 69, 70, 71, 72, 73, 74, 75, 76] (by decide +kernel) (by decide +kernel)
set_option maxRecDepth 20000 in
theorem gX1_leave_X1_placeOf : GoodIn wsX1_leave (wsV RX1 128 RX1 yX1_placeOf wsX1_placeOf) := goodIn_app (goodIn_of _ (by decide +kernel)) ggX1_leave_X1_placeOf
set_option maxRecDepth 20000 in
theorem ggX1_leave_X3_remove : GoodIn wsX1_leave wsX3_remove := goodIn_r _ [40, 35, 36, 41, 42, 43, 33, 44, 72, 73, 74, 75, 76] (by decide +kernel) (by decide +kernel)
set_option maxRecDepth 20000 in
theorem gX1_leave_X3_remove : GoodIn wsX1_leave (wsV RX1 166 RX3 yX3_remove wsX3_remove) := goodIn_app (goodIn_of _ (by decide +kernel)) ggX1_leave_X3_remove
set_option maxRecDepth 20000 in
theorem ggX1_leave_X4_end : GoodIn wsX1_leave wsX4_end := goodIn_r _ [49, 50, 51, 52, 53, 54, 55, 56, 57, 58, 59, 60] (by decide +kernel) (by decide +kernel)
set_option maxRecDepth 20000 in
theorem gX1_leave_X4_end : GoodIn wsX1_leave (wsV RX1 169 RX4 yX4_end wsX4_end) := goodIn_app (goodIn_of _ (by decide +kernel)) ggX1_leave_X4_end
theorem dX1_leave_0 : decode cX1_leave 0 = .ok (.aload_n 0, 1) := by decide +kernel
theorem dX1_leave_1 : decode cX1_leave 1 = .ok (.iload_n 1, 1) := by decide +kernel
theorem dX1_leave_2 : decode cX1_leave 2 = .ok (.invokevirtual 163, 3) := by decide +kernel
theorem dX1_leave_5 : decode cX1_leave 5 = .ok (.ifCond .ne 5, 3) := by decide +kernel
theorem dX1_leave_8 : decode cX1_leave 8 = .ok (.iconst (-1), 1) := by decide +kernel
theorem dX1_leave_9 : decode cX1_leave 9 = .ok (.ireturn, 1) := by decide +kernel
theorem dX1_leave_10 : decode cX1_leave 10 = .ok (.aload_n 0, 1) := by decide +kernel
theorem dX1_leave_11 : decode cX1_leave 11 = .ok (.aload_n 0, 1) := by decide +kernel
theorem dX1_leave_12 : decode cX1_leave 12 = .ok (.iload_n 1, 1) := by decide +kernel
theorem dX1_leave_13 : decode cX1_leave 13 = .ok (.invokevirtual 73, 3) := by decide +kernel
theorem dX1_leave_16 : decode cX1_leave 16 = .ok (.getfield 87, 3) := by decide +kernel
theorem dX1_leave_19 : decode cX1_leave 19 = .ok (.invokevirtual 65, 3) := by decide +kernel
theorem dX1_leave_22 : decode cX1_leave 22 = .ok (.aload_n 0, 1) := by decide +kernel
theorem dX1_leave_23 : decode cX1_leave 23 = .ok (.iload_n 1, 1) := by decide +kernel
theorem dX1_leave_24 : decode cX1_leave 24 = .ok (.invokevirtual 128, 3) := by decide +kernel
theorem dX1_leave_27 : decode cX1_leave 27 = .ok (.invokevirtual 166, 3) := by decide +kernel
theorem dX1_leave_30 : decode cX1_leave 30 = .ok (.aload_n 0, 1) := by decide +kernel
theorem dX1_leave_31 : decode cX1_leave 31 = .ok (.iload_n 1, 1) := by decide +kernel
theorem dX1_leave_32 : decode cX1_leave 32 = .ok (.invokevirtual 73, 3) := by decide +kernel
theorem dX1_leave_35 : decode cX1_leave 35 = .ok (.iconst 2, 1) := by decide +kernel
theorem dX1_leave_36 : decode cX1_leave 36 = .ok (.invokevirtual 169, 3) := by decide +kernel
theorem dX1_leave_39 : decode cX1_leave 39 = .ok (.aload_n 0, 1) := by decide +kernel
theorem dX1_leave_40 : decode cX1_leave 40 = .ok (.iload_n 1, 1) := by decide +kernel
theorem dX1_leave_41 : decode cX1_leave 41 = .ok (.invokevirtual 73, 3) := by decide +kernel
theorem dX1_leave_44 : decode cX1_leave 44 = .ok (.getfield 122, 3) := by decide +kernel
theorem dX1_leave_47 : decode cX1_leave 47 = .ok (.ireturn, 1) := by decide +kernel
set_option maxRecDepth 20000 in
theorem ggX1_mayTrade_X1_stands : GoodIn wsX1_mayTrade wsX1_stands := goodIn_r _ [8, 9, 10, 11, 12, 7, 13, 14, 15, 16, 17, 18, 19, 20, 43, 44, 45, 46, 47, 48, 49, 50, 51, 52, 53, 54, 55, 56, 57, 58, 59, 60, 61, 62] (by decide +kernel) (by decide +kernel)
set_option maxRecDepth 20000 in
theorem gX1_mayTrade_X1_stands : GoodIn wsX1_mayTrade (wsV RX1 163 RX1 yX1_stands wsX1_stands) := goodIn_app (goodIn_of _ (by decide +kernel)) ggX1_mayTrade_X1_stands
set_option maxRecDepth 20000 in
theorem ggX1_mayTrade_X1_personOf : GoodIn wsX1_mayTrade wsX1_personOf := goodIn_r _ [18, 19, 20, 52, 53, 54, 55, 56, 57, 58, 59, 60, 61, 62] (by decide +kernel) (by decide +kernel)
set_option maxRecDepth 20000 in
theorem gX1_mayTrade_X1_personOf : GoodIn wsX1_mayTrade (wsV RX1 73 RX1 yX1_personOf wsX1_personOf) := goodIn_app (goodIn_of _ (by decide +kernel)) ggX1_mayTrade_X1_personOf
set_option maxRecDepth 20000 in
theorem ggX1_mayTrade_X1_placeOf : GoodIn wsX1_mayTrade wsX1_placeOf := goodIn_r _ [24, 1, 15, 16, 17, 7, 18, 19, 20, 25, 26, 27, 28, 29, 30, 31, 32, 33, 34, 35, 36, 37, 43, 44, 45, 46, 47, 48, 49, 50, 51, 52, 53, 54, 55, 56, 57, 58, 59, 60, 61, 62, 63, 64, 65, 66, 67] (by decide +kernel) (by decide +kernel)
set_option maxRecDepth 20000 in
theorem gX1_mayTrade_X1_placeOf : GoodIn wsX1_mayTrade (wsV RX1 128 RX1 yX1_placeOf wsX1_placeOf) := goodIn_app (goodIn_of _ (by decide +kernel)) ggX1_mayTrade_X1_placeOf
set_option maxRecDepth 20000 in
theorem ggX1_mayTrade_X1_priceOf : GoodIn wsX1_mayTrade wsX1_priceOf := goodIn_r _ [41, 42, 52, 53, 54, 55, 56, 57, 58, 59, 60, 61, 62] (by decide +kernel) (by decide +kernel)
set_option maxRecDepth 20000 in
theorem gX1_mayTrade_X1_priceOf : GoodIn wsX1_mayTrade (wsV RX1 172 RX1 yX1_priceOf wsX1_priceOf) := goodIn_app (goodIn_of _ (by decide +kernel)) ggX1_mayTrade_X1_priceOf
theorem dX1_mayTrade_0 : decode cX1_mayTrade 0 = .ok (.aload_n 0, 1) := by decide +kernel
theorem dX1_mayTrade_1 : decode cX1_mayTrade 1 = .ok (.iload_n 1, 1) := by decide +kernel
theorem dX1_mayTrade_2 : decode cX1_mayTrade 2 = .ok (.invokevirtual 163, 3) := by decide +kernel
theorem dX1_mayTrade_5 : decode cX1_mayTrade 5 = .ok (.ifCond .eq 11, 3) := by decide +kernel
theorem dX1_mayTrade_8 : decode cX1_mayTrade 8 = .ok (.aload_n 0, 1) := by decide +kernel
theorem dX1_mayTrade_9 : decode cX1_mayTrade 9 = .ok (.iload_n 2, 1) := by decide +kernel
theorem dX1_mayTrade_10 : decode cX1_mayTrade 10 = .ok (.invokevirtual 163, 3) := by decide +kernel
theorem dX1_mayTrade_13 : decode cX1_mayTrade 13 = .ok (.ifCond .ne 5, 3) := by decide +kernel
theorem dX1_mayTrade_16 : decode cX1_mayTrade 16 = .ok (.iconst 0, 1) := by decide +kernel
theorem dX1_mayTrade_17 : decode cX1_mayTrade 17 = .ok (.ireturn, 1) := by decide +kernel
theorem dX1_mayTrade_18 : decode cX1_mayTrade 18 = .ok (.aload_n 0, 1) := by decide +kernel
theorem dX1_mayTrade_19 : decode cX1_mayTrade 19 = .ok (.iload_n 1, 1) := by decide +kernel
theorem dX1_mayTrade_20 : decode cX1_mayTrade 20 = .ok (.invokevirtual 73, 3) := by decide +kernel
theorem dX1_mayTrade_23 : decode cX1_mayTrade 23 = .ok (.astore_n 3, 1) := by decide +kernel
theorem dX1_mayTrade_24 : decode cX1_mayTrade 24 = .ok (.aload_n 0, 1) := by decide +kernel
theorem dX1_mayTrade_25 : decode cX1_mayTrade 25 = .ok (.iload_n 1, 1) := by decide +kernel
theorem dX1_mayTrade_26 : decode cX1_mayTrade 26 = .ok (.invokevirtual 128, 3) := by decide +kernel
theorem dX1_mayTrade_29 : decode cX1_mayTrade 29 = .ok (.aload_n 0, 1) := by decide +kernel
theorem dX1_mayTrade_30 : decode cX1_mayTrade 30 = .ok (.iload_n 2, 1) := by decide +kernel
theorem dX1_mayTrade_31 : decode cX1_mayTrade 31 = .ok (.invokevirtual 128, 3) := by decide +kernel
theorem dX1_mayTrade_34 : decode cX1_mayTrade 34 = .ok (.isub, 1) := by decide +kernel
theorem dX1_mayTrade_35 : decode cX1_mayTrade 35 = .ok (.istore 4, 2) := by decide +kernel
theorem dX1_mayTrade_37 : decode cX1_mayTrade 37 = .ok (.aload_n 3, 1) := by decide +kernel
theorem dX1_mayTrade_38 : decode cX1_mayTrade 38 = .ok (.getfield 87, 3) := by decide +kernel
theorem dX1_mayTrade_41 : decode cX1_mayTrade 41 = .ok (.aload_n 0, 1) := by decide +kernel
theorem dX1_mayTrade_42 : decode cX1_mayTrade 42 = .ok (.iload_n 2, 1) := by decide +kernel
theorem dX1_mayTrade_43 : decode cX1_mayTrade 43 = .ok (.invokevirtual 73, 3) := by decide +kernel
theorem dX1_mayTrade_46 : decode cX1_mayTrade 46 = .ok (.getfield 87, 3) := by decide +kernel
theorem dX1_mayTrade_49 : decode cX1_mayTrade 49 = .ok (.if_icmp .ne 31, 3) := by decide +kernel
theorem dX1_mayTrade_52 : decode cX1_mayTrade 52 = .ok (.iload 4, 2) := by decide +kernel
theorem dX1_mayTrade_54 : decode cX1_mayTrade 54 = .ok (.ifCond .le 26, 3) := by decide +kernel
theorem dX1_mayTrade_57 : decode cX1_mayTrade 57 = .ok (.aload_n 3, 1) := by decide +kernel
theorem dX1_mayTrade_58 : decode cX1_mayTrade 58 = .ok (.getfield 100, 3) := by decide +kernel
theorem dX1_mayTrade_61 : decode cX1_mayTrade 61 = .ok (.aload_n 3, 1) := by decide +kernel
theorem dX1_mayTrade_62 : decode cX1_mayTrade 62 = .ok (.getfield 122, 3) := by decide +kernel
theorem dX1_mayTrade_65 : decode cX1_mayTrade 65 = .ok (.iadd, 1) := by decide +kernel
theorem dX1_mayTrade_66 : decode cX1_mayTrade 66 = .ok (.aload_n 0, 1) := by decide +kernel
theorem dX1_mayTrade_67 : decode cX1_mayTrade 67 = .ok (.iload 4, 2) := by decide +kernel
theorem dX1_mayTrade_69 : decode cX1_mayTrade 69 = .ok (.invokevirtual 172, 3) := by decide +kernel
theorem dX1_mayTrade_72 : decode cX1_mayTrade 72 = .ok (.isub, 1) := by decide +kernel
theorem dX1_mayTrade_73 : decode cX1_mayTrade 73 = .ok (.ifCond .lt 7, 3) := by decide +kernel
theorem dX1_mayTrade_76 : decode cX1_mayTrade 76 = .ok (.iconst 1, 1) := by decide +kernel
theorem dX1_mayTrade_77 : decode cX1_mayTrade 77 = .ok (.goto 4, 3) := by decide +kernel
theorem dX1_mayTrade_80 : decode cX1_mayTrade 80 = .ok (.iconst 0, 1) := by decide +kernel
theorem dX1_mayTrade_81 : decode cX1_mayTrade 81 = .ok (.ireturn, 1) := by decide +kernel
theorem dX1_priceOf_0 : decode cX1_priceOf 0 = .ok (.aload_n 0, 1) := by decide +kernel
theorem dX1_priceOf_1 : decode cX1_priceOf 1 = .ok (.getfield 9, 3) := by decide +kernel
theorem dX1_priceOf_4 : decode cX1_priceOf 4 = .ok (.iconst 2, 1) := by decide +kernel
theorem dX1_priceOf_5 : decode cX1_priceOf 5 = .ok (.iaload, 1) := by decide +kernel
theorem dX1_priceOf_6 : decode cX1_priceOf 6 = .ok (.iload_n 1, 1) := by decide +kernel
theorem dX1_priceOf_7 : decode cX1_priceOf 7 = .ok (.imul, 1) := by decide +kernel
theorem dX1_priceOf_8 : decode cX1_priceOf 8 = .ok (.ireturn, 1) := by decide +kernel
set_option maxRecDepth 20000 in
theorem ggX1_trade_X1_mayTrade : GoodIn wsX1_trade wsX1_mayTrade := goodIn_r _ [9, 1, 2, 10, 11, 12, 13, 8, 14, 15, 16, 17, 18, 19, 20, 21, 22, 23, 24, 25, 26, 27, 28, 29, 30, 31, 32, 33, 34, 35, 36, 37, 38, 39, 40, 41, 42, 43, 44, 45, 46, 47, 48, 57, 58, 59, 60, 61, 62, 63, 64, 65, 66, 67, 68, 69, 70, 71, 72, 73, 74, 75, 76, 77, 78, 79, 80, 81] (by decide +kernel) (by decide +kernel)
set_option maxRecDepth 20000 in
theorem gX1_trade_X1_mayTrade : GoodIn wsX1_trade (wsV RX1 175 RX1 yX1_mayTrade wsX1_mayTrade) := goodIn_app (goodIn_of _ (by decide +kernel)) ggX1_trade_X1_mayTrade
set_option maxRecDepth 20000 in
theorem ggX1_trade_X1_placeOf : GoodIn wsX1_trade wsX1_placeOf := goodIn_r _ [30, 1, 21, 22, 23, 8, 24, 25, 26, 31, 32, 33, 34, 35, 36, 37, 38, 39, 40, 41, 42, 43, 57, 58, 59, 60, 61, 62, 63, 64, 65, 66, 67, 68, 69, 70, 71, 72, 73, 74, 75, 76, 77, 78, 79, 80, 81] (by decide +kernel) (by decide +kernel)
set_option maxRecDepth 20000 in
theorem gX1_trade_X1_placeOf : GoodIn wsX1_trade (wsV RX1 128 RX1 yX1_placeOf wsX1_placeOf) := goodIn_app (goodIn_of _ (by decide +kernel)) ggX1_trade_X1_placeOf
set_option maxRecDepth 20000 in
theorem ggX1_trade_X1_priceOf : GoodIn wsX1_trade wsX1_priceOf := goodIn_r _ [47, 48, 66, 67, 68, 69, 70, 71, 72, 73, 74, 75, 76] (by decide +kernel) (by decide +kernel)
set_option maxRecDepth 20000 in
theorem gX1_trade_X1_priceOf : GoodIn wsX1_trade (wsV RX1 172 RX1 yX1_priceOf wsX1_priceOf) := goodIn_app (goodIn_of _ (by decide +kernel)) ggX1_trade_X1_priceOf
set_option maxRecDepth 20000 in
theorem ggX1_trade_X1_personOf : GoodIn wsX1_trade wsX1_personOf := goodIn_r _ [24, 25, 26, 66, 67, 68, 69, 70, 71, 72, 73, 74, 75, 76] (by decide +kernel) (by decide +kernel)
set_option maxRecDepth 20000 in
theorem gX1_trade_X1_personOf : GoodIn wsX1_trade (wsV RX1 73 RX1 yX1_personOf wsX1_personOf) := goodIn_app (goodIn_of _ (by decide +kernel)) ggX1_trade_X1_personOf
set_option maxRecDepth 20000 in
theorem ggX1_trade_X1_lineOf : GoodIn wsX1_trade wsX1_lineOf := goodIn_r _ [34, 35, 36, 66, 67, 68, 69, 70, 71, 72, 73, 74, 75, 76] (by decide +kernel) (by decide +kernel)
set_option maxRecDepth 20000 in
theorem gX1_trade_X1_lineOf : GoodIn wsX1_trade (wsV RX1 65 RX1 yX1_lineOf wsX1_lineOf) := goodIn_app (goodIn_of _ (by decide +kernel)) ggX1_trade_X1_lineOf
set_option maxRecDepth 20000 in
theorem ggX1_trade_X3_swap : GoodIn wsX1_trade wsX3_swap := goodIn_r _ [52, 43, 53, 54, 55, 40, 56, 42, 77, 78, 79, 80, 81] (by decide +kernel) (by decide +kernel)
set_option maxRecDepth 20000 in
theorem gX1_trade_X3_swap : GoodIn wsX1_trade (wsV RX1 178 RX3 yX3_swap wsX3_swap) := goodIn_app (goodIn_of _ (by decide +kernel)) ggX1_trade_X3_swap
theorem dX1_trade_0 : decode cX1_trade 0 = .ok (.aload_n 0, 1) := by decide +kernel
theorem dX1_trade_1 : decode cX1_trade 1 = .ok (.iload_n 1, 1) := by decide +kernel
theorem dX1_trade_2 : decode cX1_trade 2 = .ok (.iload_n 2, 1) := by decide +kernel
theorem dX1_trade_3 : decode cX1_trade 3 = .ok (.invokevirtual 175, 3) := by decide +kernel
theorem dX1_trade_6 : decode cX1_trade 6 = .ok (.ifCond .ne 5, 3) := by decide +kernel
theorem dX1_trade_9 : decode cX1_trade 9 = .ok (.iconst (-1), 1) := by decide +kernel
theorem dX1_trade_10 : decode cX1_trade 10 = .ok (.ireturn, 1) := by decide +kernel
theorem dX1_trade_11 : decode cX1_trade 11 = .ok (.aload_n 0, 1) := by decide +kernel
theorem dX1_trade_12 : decode cX1_trade 12 = .ok (.iload_n 1, 1) := by decide +kernel
theorem dX1_trade_13 : decode cX1_trade 13 = .ok (.invokevirtual 128, 3) := by decide +kernel
theorem dX1_trade_16 : decode cX1_trade 16 = .ok (.aload_n 0, 1) := by decide +kernel
theorem dX1_trade_17 : decode cX1_trade 17 = .ok (.iload_n 2, 1) := by decide +kernel
theorem dX1_trade_18 : decode cX1_trade 18 = .ok (.invokevirtual 128, 3) := by decide +kernel
theorem dX1_trade_21 : decode cX1_trade 21 = .ok (.isub, 1) := by decide +kernel
theorem dX1_trade_22 : decode cX1_trade 22 = .ok (.istore_n 3, 1) := by decide +kernel
theorem dX1_trade_23 : decode cX1_trade 23 = .ok (.aload_n 0, 1) := by decide +kernel
theorem dX1_trade_24 : decode cX1_trade 24 = .ok (.iload_n 3, 1) := by decide +kernel
theorem dX1_trade_25 : decode cX1_trade 25 = .ok (.invokevirtual 172, 3) := by decide +kernel
theorem dX1_trade_28 : decode cX1_trade 28 = .ok (.istore 4, 2) := by decide +kernel
theorem dX1_trade_30 : decode cX1_trade 30 = .ok (.aload_n 0, 1) := by decide +kernel
theorem dX1_trade_31 : decode cX1_trade 31 = .ok (.aload_n 0, 1) := by decide +kernel
theorem dX1_trade_32 : decode cX1_trade 32 = .ok (.iload_n 1, 1) := by decide +kernel
theorem dX1_trade_33 : decode cX1_trade 33 = .ok (.invokevirtual 73, 3) := by decide +kernel
theorem dX1_trade_36 : decode cX1_trade 36 = .ok (.getfield 87, 3) := by decide +kernel
theorem dX1_trade_39 : decode cX1_trade 39 = .ok (.invokevirtual 65, 3) := by decide +kernel
theorem dX1_trade_42 : decode cX1_trade 42 = .ok (.aload_n 0, 1) := by decide +kernel
theorem dX1_trade_43 : decode cX1_trade 43 = .ok (.iload_n 1, 1) := by decide +kernel
theorem dX1_trade_44 : decode cX1_trade 44 = .ok (.invokevirtual 128, 3) := by decide +kernel
theorem dX1_trade_47 : decode cX1_trade 47 = .ok (.aload_n 0, 1) := by decide +kernel
theorem dX1_trade_48 : decode cX1_trade 48 = .ok (.iload_n 2, 1) := by decide +kernel
theorem dX1_trade_49 : decode cX1_trade 49 = .ok (.invokevirtual 128, 3) := by decide +kernel
theorem dX1_trade_52 : decode cX1_trade 52 = .ok (.invokevirtual 178, 3) := by decide +kernel
theorem dX1_trade_55 : decode cX1_trade 55 = .ok (.aload_n 0, 1) := by decide +kernel
theorem dX1_trade_56 : decode cX1_trade 56 = .ok (.iload_n 1, 1) := by decide +kernel
theorem dX1_trade_57 : decode cX1_trade 57 = .ok (.invokevirtual 73, 3) := by decide +kernel
theorem dX1_trade_60 : decode cX1_trade 60 = .ok (.dup, 1) := by decide +kernel
theorem dX1_trade_61 : decode cX1_trade 61 = .ok (.getfield 100, 3) := by decide +kernel
theorem dX1_trade_64 : decode cX1_trade 64 = .ok (.iload 4, 2) := by decide +kernel
theorem dX1_trade_66 : decode cX1_trade 66 = .ok (.isub, 1) := by decide +kernel
theorem dX1_trade_67 : decode cX1_trade 67 = .ok (.putfield 100, 3) := by decide +kernel
theorem dX1_trade_70 : decode cX1_trade 70 = .ok (.aload_n 0, 1) := by decide +kernel
theorem dX1_trade_71 : decode cX1_trade 71 = .ok (.iload_n 2, 1) := by decide +kernel
theorem dX1_trade_72 : decode cX1_trade 72 = .ok (.invokevirtual 73, 3) := by decide +kernel
theorem dX1_trade_75 : decode cX1_trade 75 = .ok (.dup, 1) := by decide +kernel
theorem dX1_trade_76 : decode cX1_trade 76 = .ok (.getfield 100, 3) := by decide +kernel
theorem dX1_trade_79 : decode cX1_trade 79 = .ok (.iload 4, 2) := by decide +kernel
theorem dX1_trade_81 : decode cX1_trade 81 = .ok (.iadd, 1) := by decide +kernel
theorem dX1_trade_82 : decode cX1_trade 82 = .ok (.putfield 100, 3) := by decide +kernel
theorem dX1_trade_85 : decode cX1_trade 85 = .ok (.aload_n 0, 1) := by decide +kernel
theorem dX1_trade_86 : decode cX1_trade 86 = .ok (.iload_n 1, 1) := by decide +kernel
theorem dX1_trade_87 : decode cX1_trade 87 = .ok (.invokevirtual 73, 3) := by decide +kernel
theorem dX1_trade_90 : decode cX1_trade 90 = .ok (.dup, 1) := by decide +kernel
theorem dX1_trade_91 : decode cX1_trade 91 = .ok (.getfield 135, 3) := by decide +kernel
theorem dX1_trade_94 : decode cX1_trade 94 = .ok (.iload_n 3, 1) := by decide +kernel
theorem dX1_trade_95 : decode cX1_trade 95 = .ok (.isub, 1) := by decide +kernel
theorem dX1_trade_96 : decode cX1_trade 96 = .ok (.putfield 135, 3) := by decide +kernel
theorem dX1_trade_99 : decode cX1_trade 99 = .ok (.aload_n 0, 1) := by decide +kernel
theorem dX1_trade_100 : decode cX1_trade 100 = .ok (.iload_n 2, 1) := by decide +kernel
theorem dX1_trade_101 : decode cX1_trade 101 = .ok (.invokevirtual 73, 3) := by decide +kernel
theorem dX1_trade_104 : decode cX1_trade 104 = .ok (.dup, 1) := by decide +kernel
theorem dX1_trade_105 : decode cX1_trade 105 = .ok (.getfield 135, 3) := by decide +kernel
theorem dX1_trade_108 : decode cX1_trade 108 = .ok (.iload_n 3, 1) := by decide +kernel
theorem dX1_trade_109 : decode cX1_trade 109 = .ok (.iadd, 1) := by decide +kernel
theorem dX1_trade_110 : decode cX1_trade 110 = .ok (.putfield 135, 3) := by decide +kernel
theorem dX1_trade_113 : decode cX1_trade 113 = .ok (.aload_n 0, 1) := by decide +kernel
theorem dX1_trade_114 : decode cX1_trade 114 = .ok (.dup, 1) := by decide +kernel
theorem dX1_trade_115 : decode cX1_trade 115 = .ok (.getfield 47, 3) := by decide +kernel
theorem dX1_trade_118 : decode cX1_trade 118 = .ok (.iconst 1, 1) := by decide +kernel
theorem dX1_trade_119 : decode cX1_trade 119 = .ok (.iadd, 1) := by decide +kernel
