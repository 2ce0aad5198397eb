set_option maxRecDepth 20000 in
theorem ggX1_profit_X3_waitAt : GoodIn wsX1_profit wsX3_waitAt := goodIn_r _ [29, 30, 31, 57, 58, 59, 60, 61] (by decide +kernel) (by decide +kernel)
set_option maxRecDepth 20000 in
theorem gX1_profit_X3_waitAt : GoodIn wsX1_profit (wsV RX1 220 RX3 yX3_waitAt wsX3_waitAt) := goodIn_app (goodIn_of _ (by decide +kernel)) ggX1_profit_X3_waitAt
set_option maxRecDepth 20000 in
theorem ggX1_profit_X1_priceOf : GoodIn wsX1_profit wsX1_priceOf := goodIn_r _ [35, 36, 46, 47, 48, 49, 50, 51, 52, 53, 54, 55, 56] (by decide +kernel) (by decide +kernel)
set_option maxRecDepth 20000 in
theorem gX1_profit_X1_priceOf : GoodIn wsX1_profit (wsV RX1 172 RX1 yX1_priceOf wsX1_priceOf) := goodIn_app (goodIn_of _ (by decide +kernel)) ggX1_profit_X1_priceOf
theorem dX1_profit_0 : decode cX1_profit 0 = .ok (.aload_n 0, 1) := by decide +kernel
theorem dX1_profit_1 : decode cX1_profit 1 = .ok (.aload_n 0, 1) := by decide +kernel
theorem dX1_profit_2 : decode cX1_profit 2 = .ok (.iload_n 1, 1) := by decide +kernel
theorem dX1_profit_3 : decode cX1_profit 3 = .ok (.invokevirtual 73, 3) := by decide +kernel
theorem dX1_profit_6 : decode cX1_profit 6 = .ok (.getfield 87, 3) := by decide +kernel
theorem dX1_profit_9 : decode cX1_profit 9 = .ok (.invokevirtual 65, 3) := by decide +kernel
theorem dX1_profit_12 : decode cX1_profit 12 = .ok (.astore_n 3, 1) := by decide +kernel
theorem dX1_profit_13 : decode cX1_profit 13 = .ok (.aload_n 0, 1) := by decide +kernel
theorem dX1_profit_14 : decode cX1_profit 14 = .ok (.iload_n 1, 1) := by decide +kernel
theorem dX1_profit_15 : decode cX1_profit 15 = .ok (.invokevirtual 128, 3) := by decide +kernel
theorem dX1_profit_18 : decode cX1_profit 18 = .ok (.istore 4, 2) := by decide +kernel
theorem dX1_profit_20 : decode cX1_profit 20 = .ok (.aload_n 0, 1) := by decide +kernel
theorem dX1_profit_21 : decode cX1_profit 21 = .ok (.iload_n 2, 1) := by decide +kernel
theorem dX1_profit_22 : decode cX1_profit 22 = .ok (.invokevirtual 128, 3) := by decide +kernel
theorem dX1_profit_25 : decode cX1_profit 25 = .ok (.istore 5, 2) := by decide +kernel
theorem dX1_profit_27 : decode cX1_profit 27 = .ok (.aload_n 3, 1) := by decide +kernel
theorem dX1_profit_28 : decode cX1_profit 28 = .ok (.iload 4, 2) := by decide +kernel
theorem dX1_profit_30 : decode cX1_profit 30 = .ok (.invokevirtual 220, 3) := by decide +kernel
theorem dX1_profit_33 : decode cX1_profit 33 = .ok (.aload_n 3, 1) := by decide +kernel
theorem dX1_profit_34 : decode cX1_profit 34 = .ok (.iload 5, 2) := by decide +kernel
theorem dX1_profit_36 : decode cX1_profit 36 = .ok (.invokevirtual 220, 3) := by decide +kernel
theorem dX1_profit_39 : decode cX1_profit 39 = .ok (.isub, 1) := by decide +kernel
theorem dX1_profit_40 : decode cX1_profit 40 = .ok (.aload_n 0, 1) := by decide +kernel
theorem dX1_profit_41 : decode cX1_profit 41 = .ok (.iload 4, 2) := by decide +kernel
theorem dX1_profit_43 : decode cX1_profit 43 = .ok (.iload 5, 2) := by decide +kernel
theorem dX1_profit_45 : decode cX1_profit 45 = .ok (.isub, 1) := by decide +kernel
theorem dX1_profit_46 : decode cX1_profit 46 = .ok (.invokevirtual 172, 3) := by decide +kernel
theorem dX1_profit_49 : decode cX1_profit 49 = .ok (.isub, 1) := by decide +kernel
theorem dX1_profit_50 : decode cX1_profit 50 = .ok (.ireturn, 1) := by decide +kernel
set_option maxRecDepth 20000 in
theorem ggX1_bestPartner_X1_mayTrade : GoodIn wsX1_bestPartner wsX1_mayTrade := goodIn_r _ [6, 7, 8, 9, 10, 11, 12, 5, 13, 14, 15, 16, 17, 18, 1, 19, 20, 21, 22, 23, 24, 25, 26, 27, 28, 29, 30, 31, 32, 33, 34, 35, 36, 37, 38, 39, 40, 41, 42, 43, 44, 45, 46, 68, 69, 70, 71, 72, 73, 74, 75, 76, 57, 58, 59, 60, 61, 62, 63, 64, 65, 66, 67, 77, 78, 79, 80, 81] (by decide +kernel) (by decide +kernel)
set_option maxRecDepth 20000 in
theorem gX1_bestPartner_X1_mayTrade : GoodIn wsX1_bestPartner (wsV RX1 175 RX1 yX1_mayTrade wsX1_mayTrade) := goodIn_app (goodIn_of _ (by decide +kernel)) ggX1_bestPartner_X1_mayTrade
set_option maxRecDepth 20000 in
theorem ggX1_bestPartner_X1_profit : GoodIn wsX1_bestPartner wsX1_profit := goodIn_r _ [50, 7, 19, 20, 21, 5, 22, 23, 24, 29, 30, 31, 32, 33, 34, 25, 26, 27, 28, 35, 36, 37, 38, 39, 40, 41, 51, 52, 53, 54, 55, 56, 42, 43, 44, 45, 46, 68, 69, 70, 71, 72, 73, 74, 75, 76, 57, 58, 59, 60, 61, 62, 63, 64, 65, 66, 67, 77, 78, 79, 80, 81] (by decide +kernel) (by decide +kernel)
set_option maxRecDepth 20000 in
theorem gX1_bestPartner_X1_profit : GoodIn wsX1_bestPartner (wsV RX1 229 RX1 yX1_profit wsX1_profit) := goodIn_app (goodIn_of _ (by decide +kernel)) ggX1_bestPartner_X1_profit
theorem dX1_bestPartner_0 : decode cX1_bestPartner 0 = .ok (.iconst (-1), 1) := by decide +kernel
theorem dX1_bestPartner_1 : decode cX1_bestPartner 1 = .ok (.istore_n 2, 1) := by decide +kernel
theorem dX1_bestPartner_2 : decode cX1_bestPartner 2 = .ok (.iconst 0, 1) := by decide +kernel
theorem dX1_bestPartner_3 : decode cX1_bestPartner 3 = .ok (.istore_n 3, 1) := by decide +kernel
theorem dX1_bestPartner_4 : decode cX1_bestPartner 4 = .ok (.iload_n 3, 1) := by decide +kernel
theorem dX1_bestPartner_5 : decode cX1_bestPartner 5 = .ok (.aload_n 0, 1) := by decide +kernel
theorem dX1_bestPartner_6 : decode cX1_bestPartner 6 = .ok (.getfield 41, 3) := by decide +kernel
theorem dX1_bestPartner_9 : decode cX1_bestPartner 9 = .ok (.if_icmp .ge 40, 3) := by decide +kernel
theorem dX1_bestPartner_12 : decode cX1_bestPartner 12 = .ok (.aload_n 0, 1) := by decide +kernel
theorem dX1_bestPartner_13 : decode cX1_bestPartner 13 = .ok (.iload_n 1, 1) := by decide +kernel
theorem dX1_bestPartner_14 : decode cX1_bestPartner 14 = .ok (.iload_n 3, 1) := by decide +kernel
theorem dX1_bestPartner_15 : decode cX1_bestPartner 15 = .ok (.invokevirtual 175, 3) := by decide +kernel
theorem dX1_bestPartner_18 : decode cX1_bestPartner 18 = .ok (.ifCond .eq 25, 3) := by decide +kernel
theorem dX1_bestPartner_21 : decode cX1_bestPartner 21 = .ok (.iload_n 2, 1) := by decide +kernel
theorem dX1_bestPartner_22 : decode cX1_bestPartner 22 = .ok (.iconst (-1), 1) := by decide +kernel
theorem dX1_bestPartner_23 : decode cX1_bestPartner 23 = .ok (.if_icmp .eq 18, 3) := by decide +kernel
theorem dX1_bestPartner_26 : decode cX1_bestPartner 26 = .ok (.aload_n 0, 1) := by decide +kernel
theorem dX1_bestPartner_27 : decode cX1_bestPartner 27 = .ok (.iload_n 1, 1) := by decide +kernel
theorem dX1_bestPartner_28 : decode cX1_bestPartner 28 = .ok (.iload_n 3, 1) := by decide +kernel
theorem dX1_bestPartner_29 : decode cX1_bestPartner 29 = .ok (.invokevirtual 229, 3) := by decide +kernel
theorem dX1_bestPartner_32 : decode cX1_bestPartner 32 = .ok (.aload_n 0, 1) := by decide +kernel
theorem dX1_bestPartner_33 : decode cX1_bestPartner 33 = .ok (.iload_n 1, 1) := by decide +kernel
theorem dX1_bestPartner_34 : decode cX1_bestPartner 34 = .ok (.iload_n 2, 1) := by decide +kernel
theorem dX1_bestPartner_35 : decode cX1_bestPartner 35 = .ok (.invokevirtual 229, 3) := by decide +kernel
theorem dX1_bestPartner_38 : decode cX1_bestPartner 38 = .ok (.if_icmp .le 5, 3) := by decide +kernel
theorem dX1_bestPartner_41 : decode cX1_bestPartner 41 = .ok (.iload_n 3, 1) := by decide +kernel
theorem dX1_bestPartner_42 : decode cX1_bestPartner 42 = .ok (.istore_n 2, 1) := by decide +kernel
theorem dX1_bestPartner_43 : decode cX1_bestPartner 43 = .ok (.iinc 3 1, 3) := by decide +kernel
theorem dX1_bestPartner_46 : decode cX1_bestPartner 46 = .ok (.goto (-42), 3) := by decide +kernel
theorem dX1_bestPartner_49 : decode cX1_bestPartner 49 = .ok (.iload_n 2, 1) := by decide +kernel
theorem dX1_bestPartner_50 : decode cX1_bestPartner 50 = .ok (.ireturn, 1) := by decide +kernel
set_option maxRecDepth 20000 in
theorem ggX2_init_X1_init : GoodIn wsX2_init wsX1_init := goodIn_r _ [10, 11, 2, 3, 12, 13, 14, 15, 16, 17, 18, 19, 20, 21, 22, 23, 24, 25, 26, 27, 28, 29, 30, 31, 32, 36, 37, 38, 39, 40, 41, 42, 43, 44, 45, 46, 47, 48, 49, 50, 51, 52, 53, 54, 55, 56, 57, 58, 59, 60] (by decide +kernel) (by decide +kernel)
set_option maxRecDepth 20000 in
theorem gX2_init_X1_init : GoodIn wsX2_init (wsX1_init) := ggX2_init_X1_init
theorem dX2_init_0 : decode cX2_init 0 = .ok (.aload_n 0, 1) := by decide +kernel
theorem dX2_init_1 : decode cX2_init 1 = .ok (.invokespecial 3, 3) := by decide +kernel
theorem dX2_init_4 : decode cX2_init 4 = .ok (.aload_n 0, 1) := by decide +kernel
theorem dX2_init_5 : decode cX2_init 5 = .ok (.bipush 14, 2) := by decide +kernel
theorem dX2_init_7 : decode cX2_init 7 = .ok (.anewarray 9, 3) := by decide +kernel
theorem dX2_init_10 : decode cX2_init 10 = .ok (.putfield 11, 3) := by decide +kernel
theorem dX2_init_13 : decode cX2_init 13 = .ok (.iconst 0, 1) := by decide +kernel
theorem dX2_init_14 : decode cX2_init 14 = .ok (.istore_n 1, 1) := by decide +kernel
theorem dX2_init_15 : decode cX2_init 15 = .ok (.iload_n 1, 1) := by decide +kernel
theorem dX2_init_16 : decode cX2_init 16 = .ok (.aload_n 0, 1) := by decide +kernel
theorem dX2_init_17 : decode cX2_init 17 = .ok (.getfield 11, 3) := by decide +kernel
theorem dX2_init_20 : decode cX2_init 20 = .ok (.arraylength, 1) := by decide +kernel
theorem dX2_init_21 : decode cX2_init 21 = .ok (.if_icmp .ge 22, 3) := by decide +kernel
theorem dX2_init_24 : decode cX2_init 24 = .ok (.aload_n 0, 1) := by decide +kernel
theorem dX2_init_25 : decode cX2_init 25 = .ok (.getfield 11, 3) := by decide +kernel
theorem dX2_init_28 : decode cX2_init 28 = .ok (.iload_n 1, 1) := by decide +kernel
theorem dX2_init_29 : decode cX2_init 29 = .ok (.new 9, 3) := by decide +kernel
theorem dX2_init_32 : decode cX2_init 32 = .ok (.dup, 1) := by decide +kernel
theorem dX2_init_33 : decode cX2_init 33 = .ok (.invokespecial 17, 3) := by decide +kernel
theorem dX2_init_36 : decode cX2_init 36 = .ok (.aastore, 1) := by decide +kernel
theorem dX2_init_37 : decode cX2_init 37 = .ok (.iinc 1 1, 3) := by decide +kernel
theorem dX2_init_40 : decode cX2_init 40 = .ok (.goto (-25), 3) := by decide +kernel
theorem dX2_init_43 : decode cX2_init 43 = .ok (.return_, 1) := by decide +kernel
theorem dX2_isEmpty_0 : decode cX2_isEmpty 0 = .ok (.aload_n 0, 1) := by decide +kernel
theorem dX2_isEmpty_1 : decode cX2_isEmpty 1 = .ok (.getfield 18, 3) := by decide +kernel
theorem dX2_isEmpty_4 : decode cX2_isEmpty 4 = .ok (.ifCond .ne 7, 3) := by decide +kernel
theorem dX2_isEmpty_7 : decode cX2_isEmpty 7 = .ok (.iconst 1, 1) := by decide +kernel
theorem dX2_isEmpty_8 : decode cX2_isEmpty 8 = .ok (.goto 4, 3) := by decide +kernel
theorem dX2_isEmpty_11 : decode cX2_isEmpty 11 = .ok (.iconst 0, 1) := by decide +kernel
theorem dX2_isEmpty_12 : decode cX2_isEmpty 12 = .ok (.ireturn, 1) := by decide +kernel
set_option maxRecDepth 20000 in
theorem ggX2_stateAt_J9_floorMod_7cf53 : GoodIn wsX2_stateAt wsJ9_floorMod_7cf53 := goodIn_r _ [6] (by decide +kernel) (by decide +kernel)
set_option maxRecDepth 20000 in
theorem gX2_stateAt_J9_floorMod_7cf53 : GoodIn wsX2_stateAt (va_wsS RX2 25 yJ9_floorMod_7cf53 wsJ9_floorMod_7cf53) := goodIn_app (goodIn_of _ (by decide +kernel)) ggX2_stateAt_J9_floorMod_7cf53
theorem dX2_stateAt_0 : decode cX2_stateAt 0 = .ok (.aload_n 0, 1) := by decide +kernel
theorem dX2_stateAt_1 : decode cX2_stateAt 1 = .ok (.getfield 11, 3) := by decide +kernel
theorem dX2_stateAt_4 : decode cX2_stateAt 4 = .ok (.aload_n 0, 1) := by decide +kernel
theorem dX2_stateAt_5 : decode cX2_stateAt 5 = .ok (.getfield 22, 3) := by decide +kernel
theorem dX2_stateAt_8 : decode cX2_stateAt 8 = .ok (.iload_n 1, 1) := by decide +kernel
theorem dX2_stateAt_9 : decode cX2_stateAt 9 = .ok (.iadd, 1) := by decide +kernel
theorem dX2_stateAt_10 : decode cX2_stateAt 10 = .ok (.bipush 14, 2) := by decide +kernel
theorem dX2_stateAt_12 : decode cX2_stateAt 12 = .ok (.invokestatic 25, 3) := by decide +kernel
theorem dX2_stateAt_15 : decode cX2_stateAt 15 = .ok (.aaload, 1) := by decide +kernel
theorem dX2_stateAt_16 : decode cX2_stateAt 16 = .ok (.areturn, 1) := by decide +kernel
set_option maxRecDepth 20000 in
theorem ggX2_remember_X2_stateAt : GoodIn wsX2_remember wsX2_stateAt := goodIn_r _ [7, 8, 2, 9, 10, 11, 12, 66, 67, 68] (by decide +kernel) (by decide +kernel)
set_option maxRecDepth 20000 in
theorem gX2_remember_X2_stateAt : GoodIn wsX2_remember (wsV RX2 31 RX2 yX2_stateAt wsX2_stateAt) := goodIn_app (goodIn_of _ (by decide +kernel)) ggX2_remember_X2_stateAt
set_option maxRecDepth 20000 in
theorem ggX2_remember_X1_copyFrom : GoodIn wsX2_remember wsX1_copyFrom := goodIn_r _ [17, 18, 19, 20, 21, 22, 23, 24, 25, 26, 27, 28, 29, 30, 31, 32, 33, 16, 34, 35, 36, 37, 38, 39, 40, 41, 42, 43, 44, 45, 46, 47, 48, 49, 50, 51, 52, 53, 54, 55, 56, 57, 58, 59, 60, 61, 62, 63, 64, 65, 69, 70, 71, 72, 73, 74, 75, 76, 77, 78, 79, 80, 81, 82, 83, 84, 85, 86, 87, 88, 89, 90, 91, 92, 93] (by decide +kernel) (by decide +kernel)
set_option maxRecDepth 20000 in
theorem gX2_remember_X1_copyFrom : GoodIn wsX2_remember (wsV RX2 35 RX1 yX1_copyFrom wsX1_copyFrom) := goodIn_app (goodIn_of _ (by decide +kernel)) ggX2_remember_X1_copyFrom
theorem dX2_remember_0 : decode cX2_remember 0 = .ok (.aload_n 0, 1) := by decide +kernel
theorem dX2_remember_1 : decode cX2_remember 1 = .ok (.aload_n 0, 1) := by decide +kernel
theorem dX2_remember_2 : decode cX2_remember 2 = .ok (.getfield 18, 3) := by decide +kernel
theorem dX2_remember_5 : decode cX2_remember 5 = .ok (.invokevirtual 31, 3) := by decide +kernel
theorem dX2_remember_8 : decode cX2_remember 8 = .ok (.aload_n 1, 1) := by decide +kernel
theorem dX2_remember_9 : decode cX2_remember 9 = .ok (.invokevirtual 35, 3) := by decide +kernel
theorem dX2_remember_12 : decode cX2_remember 12 = .ok (.aload_n 0, 1) := by decide +kernel
theorem dX2_remember_13 : decode cX2_remember 13 = .ok (.getfield 18, 3) := by decide +kernel
theorem dX2_remember_16 : decode cX2_remember 16 = .ok (.bipush 14, 2) := by decide +kernel
theorem dX2_remember_18 : decode cX2_remember 18 = .ok (.if_icmp .ge 16, 3) := by decide +kernel
theorem dX2_remember_21 : decode cX2_remember 21 = .ok (.aload_n 0, 1) := by decide +kernel
theorem dX2_remember_22 : decode cX2_remember 22 = .ok (.dup, 1) := by decide +kernel
theorem dX2_remember_23 : decode cX2_remember 23 = .ok (.getfield 18, 3) := by decide +kernel
theorem dX2_remember_26 : decode cX2_remember 26 = .ok (.iconst 1, 1) := by decide +kernel
theorem dX2_remember_27 : decode cX2_remember 27 = .ok (.iadd, 1) := by decide +kernel
theorem dX2_remember_28 : decode cX2_remember 28 = .ok (.putfield 18, 3) := by decide +kernel
theorem dX2_remember_31 : decode cX2_remember 31 = .ok (.goto 16, 3) := by decide +kernel
theorem dX2_remember_34 : decode cX2_remember 34 = .ok (.aload_n 0, 1) := by decide +kernel
theorem dX2_remember_35 : decode cX2_remember 35 = .ok (.aload_n 0, 1) := by decide +kernel
theorem dX2_remember_36 : decode cX2_remember 36 = .ok (.getfield 22, 3) := by decide +kernel
theorem dX2_remember_39 : decode cX2_remember 39 = .ok (.iconst 1, 1) := by decide +kernel
theorem dX2_remember_40 : decode cX2_remember 40 = .ok (.iadd, 1) := by decide +kernel
theorem dX2_remember_41 : decode cX2_remember 41 = .ok (.bipush 14, 2) := by decide +kernel
theorem dX2_remember_43 : decode cX2_remember 43 = .ok (.irem, 1) := by decide +kernel
theorem dX2_remember_44 : decode cX2_remember 44 = .ok (.putfield 22, 3) := by decide +kernel
theorem dX2_remember_47 : decode cX2_remember 47 = .ok (.return_, 1) := by decide +kernel
set_option maxRecDepth 20000 in
theorem ggX2_takeBack_X2_isEmpty : GoodIn wsX2_takeBack wsX2_isEmpty := goodIn_r _ [6, 1, 70, 71, 72] (by decide +kernel) (by decide +kernel)
set_option maxRecDepth 20000 in
theorem gX2_takeBack_X2_isEmpty : GoodIn wsX2_takeBack (wsV RX2 39 RX2 yX2_isEmpty wsX2_isEmpty) := goodIn_app (goodIn_of _ (by decide +kernel)) ggX2_takeBack_X2_isEmpty
set_option maxRecDepth 20000 in
theorem ggX2_takeBack_X2_stateAt : GoodIn wsX2_takeBack wsX2_stateAt := goodIn_r _ [10, 11, 12, 13, 14, 15, 16, 70, 71, 72] (by decide +kernel) (by decide +kernel)
set_option maxRecDepth 20000 in
theorem gX2_takeBack_X2_stateAt : GoodIn wsX2_takeBack (wsV RX2 31 RX2 yX2_stateAt wsX2_stateAt) := goodIn_app (goodIn_of _ (by decide +kernel)) ggX2_takeBack_X2_stateAt
set_option maxRecDepth 20000 in
theorem ggX2_takeBack_X1_copyFrom : GoodIn wsX2_takeBack wsX1_copyFrom := goodIn_r _ [21, 22, 23, 24, 25, 26, 27, 28, 29, 30, 31, 32, 33, 34, 35, 36, 37, 20, 38, 39, 40, 41, 42, 43, 44, 45, 46, 47, 48, 49, 50, 51, 52, 53, 54, 55, 56, 57, 58, 59, 60, 61, 62, 63, 64, 65, 66, 67, 68, 69, 73, 74, 75, 76, 77, 78, 79, 80, 81, 82, 83, 84, 85, 86, 87, 88, 89, 90, 91, 92, 93, 94, 95, 96, 97] (by decide +kernel) (by decide +kernel)
set_option maxRecDepth 20000 in
theorem gX2_takeBack_X1_copyFrom : GoodIn wsX2_takeBack (wsV RX2 35 RX1 yX1_copyFrom wsX1_copyFrom) := goodIn_app (goodIn_of _ (by decide +kernel)) ggX2_takeBack_X1_copyFrom
theorem dX2_takeBack_0 : decode cX2_takeBack 0 = .ok (.aload_n 0, 1) := by decide +kernel
theorem dX2_takeBack_1 : decode cX2_takeBack 1 = .ok (.invokevirtual 39, 3) := by decide +kernel
theorem dX2_takeBack_4 : decode cX2_takeBack 4 = .ok (.ifCond .eq 5, 3) := by decide +kernel
theorem dX2_takeBack_7 : decode cX2_takeBack 7 = .ok (.iconst (-1), 1) := by decide +kernel
theorem dX2_takeBack_8 : decode cX2_takeBack 8 = .ok (.ireturn, 1) := by decide +kernel
theorem dX2_takeBack_9 : decode cX2_takeBack 9 = .ok (.aload_n 0, 1) := by decide +kernel
theorem dX2_takeBack_10 : decode cX2_takeBack 10 = .ok (.dup, 1) := by decide +kernel
theorem dX2_takeBack_11 : decode cX2_takeBack 11 = .ok (.getfield 18, 3) := by decide +kernel
theorem dX2_takeBack_14 : decode cX2_takeBack 14 = .ok (.iconst 1, 1) := by decide +kernel
theorem dX2_takeBack_15 : decode cX2_takeBack 15 = .ok (.isub, 1) := by decide +kernel
theorem dX2_takeBack_16 : decode cX2_takeBack 16 = .ok (.putfield 18, 3) := by decide +kernel
theorem dX2_takeBack_19 : decode cX2_takeBack 19 = .ok (.aload_n 1, 1) := by decide +kernel
theorem dX2_takeBack_20 : decode cX2_takeBack 20 = .ok (.aload_n 0, 1) := by decide +kernel
theorem dX2_takeBack_21 : decode cX2_takeBack 21 = .ok (.aload_n 0, 1) := by decide +kernel
theorem dX2_takeBack_22 : decode cX2_takeBack 22 = .ok (.getfield 18, 3) := by decide +kernel
theorem dX2_takeBack_25 : decode cX2_takeBack 25 = .ok (.invokevirtual 31, 3) := by decide +kernel
theorem dX2_takeBack_28 : decode cX2_takeBack 28 = .ok (.invokevirtual 35, 3) := by decide +kernel
theorem dX2_takeBack_31 : decode cX2_takeBack 31 = .ok (.aload_n 0, 1) := by decide +kernel
theorem dX2_takeBack_32 : decode cX2_takeBack 32 = .ok (.getfield 18, 3) := by decide +kernel
theorem dX2_takeBack_35 : decode cX2_takeBack 35 = .ok (.ireturn, 1) := by decide +kernel
theorem dX3_init_0 : decode cX3_init 0 = .ok (.aload_n 0, 1) := by decide +kernel
theorem dX3_init_1 : decode cX3_init 1 = .ok (.invokespecial 3, 3) := by decide +kernel
theorem dX3_init_4 : decode cX3_init 4 = .ok (.aload_n 0, 1) := by decide +kernel
theorem dX3_init_5 : decode cX3_init 5 = .ok (.bipush 12, 2) := by decide +kernel
theorem dX3_init_7 : decode cX3_init 7 = .ok (.newarray .int, 2) := by decide +kernel
theorem dX3_init_9 : decode cX3_init 9 = .ok (.putfield 9, 3) := by decide +kernel
theorem dX3_init_12 : decode cX3_init 12 = .ok (.return_, 1) := by decide +kernel
theorem dX3_begin_0 : decode cX3_begin 0 = .ok (.aload_n 0, 1) := by decide +kernel
theorem dX3_begin_1 : decode cX3_begin 1 = .ok (.iload_n 1, 1) := by decide +kernel
theorem dX3_begin_2 : decode cX3_begin 2 = .ok (.putfield 15, 3) := by decide +kernel
theorem dX3_begin_5 : decode cX3_begin 5 = .ok (.aload_n 0, 1) := by decide +kernel
theorem dX3_begin_6 : decode cX3_begin 6 = .ok (.iconst 0, 1) := by decide +kernel
theorem dX3_begin_7 : decode cX3_begin 7 = .ok (.putfield 19, 3) := by decide +kernel
theorem dX3_begin_10 : decode cX3_begin 10 = .ok (.aload_n 0, 1) := by decide +kernel
theorem dX3_begin_11 : decode cX3_begin 11 = .ok (.iconst 0, 1) := by decide +kernel
theorem dX3_begin_12 : decode cX3_begin 12 = .ok (.putfield 22, 3) := by decide +kernel
theorem dX3_begin_15 : decode cX3_begin 15 = .ok (.aload_n 0, 1) := by decide +kernel
theorem dX3_begin_16 : decode cX3_begin 16 = .ok (.iconst 0, 1) := by decide +kernel
theorem dX3_begin_17 : decode cX3_begin 17 = .ok (.putfield 25, 3) := by decide +kernel
theorem dX3_begin_20 : decode cX3_begin 20 = .ok (.return_, 1) := by decide +kernel
theorem dX3_copyFrom_0 : decode cX3_copyFrom 0 = .ok (.aload_n 0, 1) := by decide +kernel
theorem dX3_copyFrom_1 : decode cX3_copyFrom 1 = .ok (.aload_n 1, 1) := by decide +kernel
theorem dX3_copyFrom_2 : decode cX3_copyFrom 2 = .ok (.getfield 15, 3) := by decide +kernel
theorem dX3_copyFrom_5 : decode cX3_copyFrom 5 = .ok (.putfield 15, 3) := by decide +kernel
theorem dX3_copyFrom_8 : decode cX3_copyFrom 8 = .ok (.aload_n 0, 1) := by decide +kernel
theorem dX3_copyFrom_9 : decode cX3_copyFrom 9 = .ok (.aload_n 1, 1) := by decide +kernel
theorem dX3_copyFrom_10 : decode cX3_copyFrom 10 = .ok (.getfield 19, 3) := by decide +kernel
theorem dX3_copyFrom_13 : decode cX3_copyFrom 13 = .ok (.putfield 19, 3) := by decide +kernel
theorem dX3_copyFrom_16 : decode cX3_copyFrom 16 = .ok (.aload_n 0, 1) := by decide +kernel
theorem dX3_copyFrom_17 : decode cX3_copyFrom 17 = .ok (.aload_n 1, 1) := by decide +kernel
theorem dX3_copyFrom_18 : decode cX3_copyFrom 18 = .ok (.getfield 22, 3) := by decide +kernel
theorem dX3_copyFrom_21 : decode cX3_copyFrom 21 = .ok (.putfield 22, 3) := by decide +kernel
theorem dX3_copyFrom_24 : decode cX3_copyFrom 24 = .ok (.aload_n 0, 1) := by decide +kernel
theorem dX3_copyFrom_25 : decode cX3_copyFrom 25 = .ok (.aload_n 1, 1) := by decide +kernel
theorem dX3_copyFrom_26 : decode cX3_copyFrom 26 = .ok (.getfield 25, 3) := by decide +kernel
theorem dX3_copyFrom_29 : decode cX3_copyFrom 29 = .ok (.putfield 25, 3) := by decide +kernel
theorem dX3_copyFrom_32 : decode cX3_copyFrom 32 = .ok (.aload_n 1, 1) := by decide +kernel
theorem dX3_copyFrom_33 : decode cX3_copyFrom 33 = .ok (.getfield 9, 3) := by decide +kernel
theorem dX3_copyFrom_36 : decode cX3_copyFrom 36 = .ok (.iconst 0, 1) := by decide +kernel
theorem dX3_copyFrom_37 : decode cX3_copyFrom 37 = .ok (.aload_n 0, 1) := by decide +kernel
theorem dX3_copyFrom_38 : decode cX3_copyFrom 38 = .ok (.getfield 9, 3) := by decide +kernel
theorem dX3_copyFrom_41 : decode cX3_copyFrom 41 = .ok (.iconst 0, 1) := by decide +kernel
theorem dX3_copyFrom_42 : decode cX3_copyFrom 42 = .ok (.aload_n 0, 1) := by decide +kernel
theorem dX3_copyFrom_43 : decode cX3_copyFrom 43 = .ok (.getfield 9, 3) := by decide +kernel
theorem dX3_copyFrom_46 : decode cX3_copyFrom 46 = .ok (.arraylength, 1) := by decide +kernel
theorem dX3_copyFrom_47 : decode cX3_copyFrom 47 = .ok (.invokestatic 28, 3) := by decide +kernel
theorem dX3_copyFrom_50 : decode cX3_copyFrom 50 = .ok (.return_, 1) := by decide +kernel
theorem dX3_isPlace_0 : decode cX3_isPlace 0 = .ok (.iload_n 1, 1) := by decide +kernel
theorem dX3_isPlace_1 : decode cX3_isPlace 1 = .ok (.ifCond .lt 24, 3) := by decide +kernel
theorem dX3_isPlace_4 : decode cX3_isPlace 4 = .ok (.iload_n 1, 1) := by decide +kernel
theorem dX3_isPlace_5 : decode cX3_isPlace 5 = .ok (.aload_n 0, 1) := by decide +kernel
theorem dX3_isPlace_6 : decode cX3_isPlace 6 = .ok (.getfield 25, 3) := by decide +kernel
theorem dX3_isPlace_9 : decode cX3_isPlace 9 = .ok (.if_icmp .ge 16, 3) := by decide +kernel
theorem dX3_isPlace_12 : decode cX3_isPlace 12 = .ok (.iload_n 1, 1) := by decide +kernel
theorem dX3_isPlace_13 : decode cX3_isPlace 13 = .ok (.aload_n 0, 1) := by decide +kernel
theorem dX3_isPlace_14 : decode cX3_isPlace 14 = .ok (.getfield 9, 3) := by decide +kernel
theorem dX3_isPlace_17 : decode cX3_isPlace 17 = .ok (.arraylength, 1) := by decide +kernel
theorem dX3_isPlace_18 : decode cX3_isPlace 18 = .ok (.if_icmp .ge 7, 3) := by decide +kernel
theorem dX3_isPlace_21 : decode cX3_isPlace 21 = .ok (.iconst 1, 1) := by decide +kernel
theorem dX3_isPlace_22 : decode cX3_isPlace 22 = .ok (.goto 4, 3) := by decide +kernel
theorem dX3_isPlace_25 : decode cX3_isPlace 25 = .ok (.iconst 0, 1) := by decide +kernel
theorem dX3_isPlace_26 : decode cX3_isPlace 26 = .ok (.ireturn, 1) := by decide +kernel
set_option maxRecDepth 20000 in
theorem ggX3_who_X3_isPlace : GoodIn wsX3_who wsX3_isPlace := goodIn_r _ [6, 7, 1, 8, 9, 10, 11, 12] (by decide +kernel) (by decide +kernel)
set_option maxRecDepth 20000 in
theorem gX3_who_X3_isPlace : GoodIn wsX3_who (wsV RX3 34 RX3 yX3_isPlace wsX3_isPlace) := goodIn_app (goodIn_of _ (by decide +kernel)) ggX3_who_X3_isPlace
theorem dX3_who_0 : decode cX3_who 0 = .ok (.aload_n 0, 1) := by decide +kernel
theorem dX3_who_1 : decode cX3_who 1 = .ok (.iload_n 1, 1) := by decide +kernel
theorem dX3_who_2 : decode cX3_who 2 = .ok (.invokevirtual 34, 3) := by decide +kernel
theorem dX3_who_5 : decode cX3_who 5 = .ok (.ifCond .eq 12, 3) := by decide +kernel
theorem dX3_who_8 : decode cX3_who 8 = .ok (.aload_n 0, 1) := by decide +kernel
theorem dX3_who_9 : decode cX3_who 9 = .ok (.getfield 9, 3) := by decide +kernel
theorem dX3_who_12 : decode cX3_who 12 = .ok (.iload_n 1, 1) := by decide +kernel
theorem dX3_who_13 : decode cX3_who 13 = .ok (.iaload, 1) := by decide +kernel
theorem dX3_who_14 : decode cX3_who 14 = .ok (.goto 4, 3) := by decide +kernel
theorem dX3_who_17 : decode cX3_who 17 = .ok (.iconst (-1), 1) := by decide +kernel
theorem dX3_who_18 : decode cX3_who 18 = .ok (.ireturn, 1) := by decide +kernel
theorem dX3_placeOf_0 : decode cX3_placeOf 0 = .ok (.iconst 0, 1) := by decide +kernel
theorem dX3_placeOf_1 : decode cX3_placeOf 1 = .ok (.istore_n 2, 1) := by decide +kernel
theorem dX3_placeOf_2 : decode cX3_placeOf 2 = .ok (.iload_n 2, 1) := by decide +kernel
theorem dX3_placeOf_3 : decode cX3_placeOf 3 = .ok (.aload_n 0, 1) := by decide +kernel
theorem dX3_placeOf_4 : decode cX3_placeOf 4 = .ok (.getfield 25, 3) := by decide +kernel
theorem dX3_placeOf_7 : decode cX3_placeOf 7 = .ok (.if_icmp .ge 30, 3) := by decide +kernel
theorem dX3_placeOf_10 : decode cX3_placeOf 10 = .ok (.iload_n 2, 1) := by decide +kernel
theorem dX3_placeOf_11 : decode cX3_placeOf 11 = .ok (.aload_n 0, 1) := by decide +kernel
theorem dX3_placeOf_12 : decode cX3_placeOf 12 = .ok (.getfield 9, 3) := by decide +kernel
theorem dX3_placeOf_15 : decode cX3_placeOf 15 = .ok (.arraylength, 1) := by decide +kernel
theorem dX3_placeOf_16 : decode cX3_placeOf 16 = .ok (.if_icmp .ge 21, 3) := by decide +kernel
theorem dX3_placeOf_19 : decode cX3_placeOf 19 = .ok (.aload_n 0, 1) := by decide +kernel
theorem dX3_placeOf_20 : decode cX3_placeOf 20 = .ok (.getfield 9, 3) := by decide +kernel
theorem dX3_placeOf_23 : decode cX3_placeOf 23 = .ok (.iload_n 2, 1) := by decide +kernel
theorem dX3_placeOf_24 : decode cX3_placeOf 24 = .ok (.iaload, 1) := by decide +kernel
theorem dX3_placeOf_25 : decode cX3_placeOf 25 = .ok (.iload_n 1, 1) := by decide +kernel
theorem dX3_placeOf_26 : decode cX3_placeOf 26 = .ok (.if_icmp .ne 5, 3) := by decide +kernel
theorem dX3_placeOf_29 : decode cX3_placeOf 29 = .ok (.iload_n 2, 1) := by decide +kernel
theorem dX3_placeOf_30 : decode cX3_placeOf 30 = .ok (.ireturn, 1) := by decide +kernel
theorem dX3_placeOf_31 : decode cX3_placeOf 31 = .ok (.iinc 2 1, 3) := by decide +kernel
theorem dX3_placeOf_34 : decode cX3_placeOf 34 = .ok (.goto (-32), 3) := by decide +kernel
theorem dX3_placeOf_37 : decode cX3_placeOf 37 = .ok (.iconst (-1), 1) := by decide +kernel
theorem dX3_placeOf_38 : decode cX3_placeOf 38 = .ok (.ireturn, 1) := by decide +kernel
theorem dX3_add_0 : decode cX3_add 0 = .ok (.aload_n 0, 1) := by decide +kernel
theorem dX3_add_1 : decode cX3_add 1 = .ok (.getfield 25, 3) := by decide +kernel
theorem dX3_add_4 : decode cX3_add 4 = .ok (.ifCond .lt 35, 3) := by decide +kernel
theorem dX3_add_7 : decode cX3_add 7 = .ok (.aload_n 0, 1) := by decide +kernel
theorem dX3_add_8 : decode cX3_add 8 = .ok (.getfield 25, 3) := by decide +kernel
theorem dX3_add_11 : decode cX3_add 11 = .ok (.aload_n 0, 1) := by decide +kernel
theorem dX3_add_12 : decode cX3_add 12 = .ok (.getfield 9, 3) := by decide +kernel
theorem dX3_add_15 : decode cX3_add 15 = .ok (.arraylength, 1) := by decide +kernel
theorem dX3_add_16 : decode cX3_add 16 = .ok (.if_icmp .ge 23, 3) := by decide +kernel
theorem dX3_add_19 : decode cX3_add 19 = .ok (.aload_n 0, 1) := by decide +kernel
theorem dX3_add_20 : decode cX3_add 20 = .ok (.getfield 9, 3) := by decide +kernel
theorem dX3_add_23 : decode cX3_add 23 = .ok (.aload_n 0, 1) := by decide +kernel
theorem dX3_add_24 : decode cX3_add 24 = .ok (.getfield 25, 3) := by decide +kernel
theorem dX3_add_27 : decode cX3_add 27 = .ok (.iload_n 1, 1) := by decide +kernel
theorem dX3_add_28 : decode cX3_add 28 = .ok (.iastore, 1) := by decide +kernel
theorem dX3_add_29 : decode cX3_add 29 = .ok (.aload_n 0, 1) := by decide +kernel
theorem dX3_add_30 : decode cX3_add 30 = .ok (.dup, 1) := by decide +kernel
theorem dX3_add_31 : decode cX3_add 31 = .ok (.getfield 25, 3) := by decide +kernel
theorem dX3_add_34 : decode cX3_add 34 = .ok (.iconst 1, 1) := by decide +kernel
theorem dX3_add_35 : decode cX3_add 35 = .ok (.iadd, 1) := by decide +kernel
theorem dX3_add_36 : decode cX3_add 36 = .ok (.putfield 25, 3) := by decide +kernel
theorem dX3_add_39 : decode cX3_add 39 = .ok (.return_, 1) := by decide +kernel
set_option maxRecDepth 20000 in
theorem ggX3_remove_X3_isPlace : GoodIn wsX3_remove wsX3_isPlace := goodIn_r _ [7, 1, 2, 8, 9, 10, 11, 12] (by decide +kernel) (by decide +kernel)
set_option maxRecDepth 20000 in
theorem gX3_remove_X3_isPlace : GoodIn wsX3_remove (wsV RX3 34 RX3 yX3_isPlace wsX3_isPlace) := goodIn_app (goodIn_of _ (by decide +kernel)) ggX3_remove_X3_isPlace
theorem dX3_remove_0 : decode cX3_remove 0 = .ok (.aload_n 0, 1) := by decide +kernel
theorem dX3_remove_1 : decode cX3_remove 1 = .ok (.iload_n 1, 1) := by decide +kernel
theorem dX3_remove_2 : decode cX3_remove 2 = .ok (.invokevirtual 34, 3) := by decide +kernel
theorem dX3_remove_5 : decode cX3_remove 5 = .ok (.ifCond .ne 4, 3) := by decide +kernel
theorem dX3_remove_8 : decode cX3_remove 8 = .ok (.return_, 1) := by decide +kernel
theorem dX3_remove_9 : decode cX3_remove 9 = .ok (.aload_n 0, 1) := by decide +kernel
theorem dX3_remove_10 : decode cX3_remove 10 = .ok (.dup, 1) := by decide +kernel
theorem dX3_remove_11 : decode cX3_remove 11 = .ok (.getfield 25, 3) := by decide +kernel
theorem dX3_remove_14 : decode cX3_remove 14 = .ok (.iconst 1, 1) := by decide +kernel
theorem dX3_remove_15 : decode cX3_remove 15 = .ok (.isub, 1) := by decide +kernel
theorem dX3_remove_16 : decode cX3_remove 16 = .ok (.putfield 25, 3) := by decide +kernel
theorem dX3_remove_19 : decode cX3_remove 19 = .ok (.iload_n 1, 1) := by decide +kernel
theorem dX3_remove_20 : decode cX3_remove 20 = .ok (.istore_n 2, 1) := by decide +kernel
theorem dX3_remove_21 : decode cX3_remove 21 = .ok (.iload_n 2, 1) := by decide +kernel
theorem dX3_remove_22 : decode cX3_remove 22 = .ok (.aload_n 0, 1) := by decide +kernel
theorem dX3_remove_23 : decode cX3_remove 23 = .ok (.getfield 25, 3) := by decide +kernel
theorem dX3_remove_26 : decode cX3_remove 26 = .ok (.if_icmp .ge 34, 3) := by decide +kernel
theorem dX3_remove_29 : decode cX3_remove 29 = .ok (.iload_n 2, 1) := by decide +kernel
theorem dX3_remove_30 : decode cX3_remove 30 = .ok (.iconst 1, 1) := by decide +kernel
theorem dX3_remove_31 : decode cX3_remove 31 = .ok (.iadd, 1) := by decide +kernel
theorem dX3_remove_32 : decode cX3_remove 32 = .ok (.aload_n 0, 1) := by decide +kernel
theorem dX3_remove_33 : decode cX3_remove 33 = .ok (.getfield 9, 3) := by decide +kernel
theorem dX3_remove_36 : decode cX3_remove 36 = .ok (.arraylength, 1) := by decide +kernel
theorem dX3_remove_37 : decode cX3_remove 37 = .ok (.if_icmp .ge 23, 3) := by decide +kernel
theorem dX3_remove_40 : decode cX3_remove 40 = .ok (.aload_n 0, 1) := by decide +kernel
theorem dX3_remove_41 : decode cX3_remove 41 = .ok (.getfield 9, 3) := by decide +kernel
theorem dX3_remove_44 : decode cX3_remove 44 = .ok (.iload_n 2, 1) := by decide +kernel
theorem dX3_remove_45 : decode cX3_remove 45 = .ok (.aload_n 0, 1) := by decide +kernel
theorem dX3_remove_46 : decode cX3_remove 46 = .ok (.getfield 9, 3) := by decide +kernel
theorem dX3_remove_49 : decode cX3_remove 49 = .ok (.iload_n 2, 1) := by decide +kernel
theorem dX3_remove_50 : decode cX3_remove 50 = .ok (.iconst 1, 1) := by decide +kernel
theorem dX3_remove_51 : decode cX3_remove 51 = .ok (.iadd, 1) := by decide +kernel
theorem dX3_remove_52 : decode cX3_remove 52 = .ok (.iaload, 1) := by decide +kernel
theorem dX3_remove_53 : decode cX3_remove 53 = .ok (.iastore, 1) := by decide +kernel
theorem dX3_remove_54 : decode cX3_remove 54 = .ok (.iinc 2 1, 3) := by decide +kernel
theorem dX3_remove_57 : decode cX3_remove 57 = .ok (.goto (-36), 3) := by decide +kernel
theorem dX3_remove_60 : decode cX3_remove 60 = .ok (.return_, 1) := by decide +kernel
set_option maxRecDepth 20000 in
theorem ggX3_swap_X3_isPlace : GoodIn wsX3_swap wsX3_isPlace := goodIn_r _ [6, 7, 1, 8, 9, 10, 11, 12] (by decide +kernel) (by decide +kernel)
set_option maxRecDepth 20000 in
theorem gX3_swap_X3_isPlace : GoodIn wsX3_swap (wsV RX3 34 RX3 yX3_isPlace wsX3_isPlace) := goodIn_app (goodIn_of _ (by decide +kernel)) ggX3_swap_X3_isPlace
theorem dX3_swap_0 : decode cX3_swap 0 = .ok (.aload_n 0, 1) := by decide +kernel
theorem dX3_swap_1 : decode cX3_swap 1 = .ok (.iload_n 1, 1) := by decide +kernel
theorem dX3_swap_2 : decode cX3_swap 2 = .ok (.invokevirtual 34, 3) := by decide +kernel
theorem dX3_swap_5 : decode cX3_swap 5 = .ok (.ifCond .eq 37, 3) := by decide +kernel
theorem dX3_swap_8 : decode cX3_swap 8 = .ok (.aload_n 0, 1) := by decide +kernel
theorem dX3_swap_9 : decode cX3_swap 9 = .ok (.iload_n 2, 1) := by decide +kernel
theorem dX3_swap_10 : decode cX3_swap 10 = .ok (.invokevirtual 34, 3) := by decide +kernel
theorem dX3_swap_13 : decode cX3_swap 13 = .ok (.ifCond .eq 29, 3) := by decide +kernel
theorem dX3_swap_16 : decode cX3_swap 16 = .ok (.aload_n 0, 1) := by decide +kernel
theorem dX3_swap_17 : decode cX3_swap 17 = .ok (.getfield 9, 3) := by decide +kernel
theorem dX3_swap_20 : decode cX3_swap 20 = .ok (.iload_n 1, 1) := by decide +kernel
theorem dX3_swap_21 : decode cX3_swap 21 = .ok (.iaload, 1) := by decide +kernel
theorem dX3_swap_22 : decode cX3_swap 22 = .ok (.istore_n 3, 1) := by decide +kernel
theorem dX3_swap_23 : decode cX3_swap 23 = .ok (.aload_n 0, 1) := by decide +kernel
theorem dX3_swap_24 : decode cX3_swap 24 = .ok (.getfield 9, 3) := by decide +kernel
theorem dX3_swap_27 : decode cX3_swap 27 = .ok (.iload_n 1, 1) := by decide +kernel
theorem dX3_swap_28 : decode cX3_swap 28 = .ok (.aload_n 0, 1) := by decide +kernel
theorem dX3_swap_29 : decode cX3_swap 29 = .ok (.getfield 9, 3) := by decide +kernel
theorem dX3_swap_32 : decode cX3_swap 32 = .ok (.iload_n 2, 1) := by decide +kernel
theorem dX3_swap_33 : decode cX3_swap 33 = .ok (.iaload, 1) := by decide +kernel
theorem dX3_swap_34 : decode cX3_swap 34 = .ok (.iastore, 1) := by decide +kernel
theorem dX3_swap_35 : decode cX3_swap 35 = .ok (.aload_n 0, 1) := by decide +kernel
theorem dX3_swap_36 : decode cX3_swap 36 = .ok (.getfield 9, 3) := by decide +kernel
theorem dX3_swap_39 : decode cX3_swap 39 = .ok (.iload_n 2, 1) := by decide +kernel
theorem dX3_swap_40 : decode cX3_swap 40 = .ok (.iload_n 3, 1) := by decide +kernel
theorem dX3_swap_41 : decode cX3_swap 41 = .ok (.iastore, 1) := by decide +kernel
theorem dX3_swap_42 : decode cX3_swap 42 = .ok (.return_, 1) := by decide +kernel
theorem dX3_waitAt_0 : decode cX3_waitAt 0 = .ok (.aload_n 0, 1) := by decide +kernel
theorem dX3_waitAt_1 : decode cX3_waitAt 1 = .ok (.getfield 15, 3) := by decide +kernel
theorem dX3_waitAt_4 : decode cX3_waitAt 4 = .ok (.iload_n 1, 1) := by decide +kernel
theorem dX3_waitAt_5 : decode cX3_waitAt 5 = .ok (.iconst 1, 1) := by decide +kernel
theorem dX3_waitAt_6 : decode cX3_waitAt 6 = .ok (.iadd, 1) := by decide +kernel
theorem dX3_waitAt_7 : decode cX3_waitAt 7 = .ok (.imul, 1) := by decide +kernel
theorem dX3_waitAt_8 : decode cX3_waitAt 8 = .ok (.aload_n 0, 1) := by decide +kernel
theorem dX3_waitAt_9 : decode cX3_waitAt 9 = .ok (.getfield 19, 3) := by decide +kernel
theorem dX3_waitAt_12 : decode cX3_waitAt 12 = .ok (.isub, 1) := by decide +kernel
theorem dX3_waitAt_13 : decode cX3_waitAt 13 = .ok (.ireturn, 1) := by decide +kernel
theorem dX4_init_0 : decode cX4_init 0 = .ok (.aload_n 0, 1) := by decide +kernel
theorem dX4_init_1 : decode cX4_init 1 = .ok (.invokespecial 3, 3) := by decide +kernel
theorem dX4_init_4 : decode cX4_init 4 = .ok (.aload_n 0, 1) := by decide +kernel
theorem dX4_init_5 : decode cX4_init 5 = .ok (.iconst (-1), 1) := by decide +kernel
theorem dX4_init_6 : decode cX4_init 6 = .ok (.putfield 9, 3) := by decide +kernel
theorem dX4_init_9 : decode cX4_init 9 = .ok (.aload_n 0, 1) := by decide +kernel
theorem dX4_init_10 : decode cX4_init 10 = .ok (.iconst 2, 1) := by decide +kernel
theorem dX4_init_11 : decode cX4_init 11 = .ok (.putfield 15, 3) := by decide +kernel
theorem dX4_init_14 : decode cX4_init 14 = .ok (.return_, 1) := by decide +kernel
theorem dX4_enter_0 : decode cX4_enter 0 = .ok (.aload_n 0, 1) := by decide +kernel
theorem dX4_enter_1 : decode cX4_enter 1 = .ok (.iload_n 1, 1) := by decide +kernel
theorem dX4_enter_2 : decode cX4_enter 2 = .ok (.putfield 18, 3) := by decide +kernel
theorem dX4_enter_5 : decode cX4_enter 5 = .ok (.aload_n 0, 1) := by decide +kernel
theorem dX4_enter_6 : decode cX4_enter 6 = .ok (.iload_n 2, 1) := by decide +kernel
theorem dX4_enter_7 : decode cX4_enter 7 = .ok (.putfield 9, 3) := by decide +kernel
theorem dX4_enter_10 : decode cX4_enter 10 = .ok (.aload_n 0, 1) := by decide +kernel
theorem dX4_enter_11 : decode cX4_enter 11 = .ok (.iconst 0, 1) := by decide +kernel
theorem dX4_enter_12 : decode cX4_enter 12 = .ok (.putfield 15, 3) := by decide +kernel
theorem dX4_enter_15 : decode cX4_enter 15 = .ok (.aload_n 0, 1) := by decide +kernel
theorem dX4_enter_16 : decode cX4_enter 16 = .ok (.iconst 0, 1) := by decide +kernel
theorem dX4_enter_17 : decode cX4_enter 17 = .ok (.putfield 21, 3) := by decide +kernel
theorem dX4_enter_20 : decode cX4_enter 20 = .ok (.aload_n 0, 1) := by decide +kernel
theorem dX4_enter_21 : decode cX4_enter 21 = .ok (.iconst 0, 1) := by decide +kernel
theorem dX4_enter_22 : decode cX4_enter 22 = .ok (.putfield 24, 3) := by decide +kernel
theorem dX4_enter_25 : decode cX4_enter 25 = .ok (.aload_n 0, 1) := by decide +kernel
theorem dX4_enter_26 : decode cX4_enter 26 = .ok (.iconst 0, 1) := by decide +kernel
theorem dX4_enter_27 : decode cX4_enter 27 = .ok (.putfield 27, 3) := by decide +kernel
theorem dX4_enter_30 : decode cX4_enter 30 = .ok (.aload_n 0, 1) := by decide +kernel
theorem dX4_enter_31 : decode cX4_enter 31 = .ok (.iload_n 3, 1) := by decide +kernel
theorem dX4_enter_32 : decode cX4_enter 32 = .ok (.putfield 30, 3) := by decide +kernel
theorem dX4_enter_35 : decode cX4_enter 35 = .ok (.aload_n 0, 1) := by decide +kernel
theorem dX4_enter_36 : decode cX4_enter 36 = .ok (.iconst 0, 1) := by decide +kernel
theorem dX4_enter_37 : decode cX4_enter 37 = .ok (.putfield 33, 3) := by decide +kernel
theorem dX4_enter_40 : decode cX4_enter 40 = .ok (.aload_n 0, 1) := by decide +kernel
theorem dX4_enter_41 : decode cX4_enter 41 = .ok (.iload_n 3, 1) := by decide +kernel
theorem dX4_enter_42 : decode cX4_enter 42 = .ok (.iconst 5, 1) := by decide +kernel
theorem dX4_enter_43 : decode cX4_enter 43 = .ok (.isub, 1) := by decide +kernel
theorem dX4_enter_44 : decode cX4_enter 44 = .ok (.putfield 36, 3) := by decide +kernel
theorem dX4_enter_47 : decode cX4_enter 47 = .ok (.return_, 1) := by decide +kernel
theorem dX4_end_0 : decode cX4_end 0 = .ok (.aload_n 0, 1) := by decide +kernel
theorem dX4_end_1 : decode cX4_end 1 = .ok (.iconst (-1), 1) := by decide +kernel
theorem dX4_end_2 : decode cX4_end 2 = .ok (.putfield 9, 3) := by decide +kernel
theorem dX4_end_5 : decode cX4_end 5 = .ok (.aload_n 0, 1) := by decide +kernel
theorem dX4_end_6 : decode cX4_end 6 = .ok (.iload_n 1, 1) := by decide +kernel
theorem dX4_end_7 : decode cX4_end 7 = .ok (.putfield 15, 3) := by decide +kernel
theorem dX4_end_10 : decode cX4_end 10 = .ok (.return_, 1) := by decide +kernel
theorem dX4_copyFrom_0 : decode cX4_copyFrom 0 = .ok (.aload_n 0, 1) := by decide +kernel
theorem dX4_copyFrom_1 : decode cX4_copyFrom 1 = .ok (.aload_n 1, 1) := by decide +kernel
theorem dX4_copyFrom_2 : decode cX4_copyFrom 2 = .ok (.getfield 18, 3) := by decide +kernel
theorem dX4_copyFrom_5 : decode cX4_copyFrom 5 = .ok (.putfield 18, 3) := by decide +kernel
theorem dX4_copyFrom_8 : decode cX4_copyFrom 8 = .ok (.aload_n 0, 1) := by decide +kernel
theorem dX4_copyFrom_9 : decode cX4_copyFrom 9 = .ok (.aload_n 1, 1) := by decide +kernel
theorem dX4_copyFrom_10 : decode cX4_copyFrom 10 = .ok (.getfield 9, 3) := by decide +kernel
theorem dX4_copyFrom_13 : decode cX4_copyFrom 13 = .ok (.putfield 9, 3) := by decide +kernel
theorem dX4_copyFrom_16 : decode cX4_copyFrom 16 = .ok (.aload_n 0, 1) := by decide +kernel
theorem dX4_copyFrom_17 : decode cX4_copyFrom 17 = .ok (.aload_n 1, 1) := by decide +kernel
theorem dX4_copyFrom_18 : decode cX4_copyFrom 18 = .ok (.getfield 15, 3) := by decide +kernel
theorem dX4_copyFrom_21 : decode cX4_copyFrom 21 = .ok (.putfield 15, 3) := by decide +kernel
theorem dX4_copyFrom_24 : decode cX4_copyFrom 24 = .ok (.aload_n 0, 1) := by decide +kernel
theorem dX4_copyFrom_25 : decode cX4_copyFrom 25 = .ok (.aload_n 1, 1) := by decide +kernel
theorem dX4_copyFrom_26 : decode cX4_copyFrom 26 = .ok (.getfield 21, 3) := by decide +kernel
theorem dX4_copyFrom_29 : decode cX4_copyFrom 29 = .ok (.putfield 21, 3) := by decide +kernel
theorem dX4_copyFrom_32 : decode cX4_copyFrom 32 = .ok (.aload_n 0, 1) := by decide +kernel
theorem dX4_copyFrom_33 : decode cX4_copyFrom 33 = .ok (.aload_n 1, 1) := by decide +kernel
theorem dX4_copyFrom_34 : decode cX4_copyFrom 34 = .ok (.getfield 24, 3) := by decide +kernel
theorem dX4_copyFrom_37 : decode cX4_copyFrom 37 = .ok (.putfield 24, 3) := by decide +kernel
theorem dX4_copyFrom_40 : decode cX4_copyFrom 40 = .ok (.aload_n 0, 1) := by decide +kernel
theorem dX4_copyFrom_41 : decode cX4_copyFrom 41 = .ok (.aload_n 1, 1) := by decide +kernel
theorem dX4_copyFrom_42 : decode cX4_copyFrom 42 = .ok (.getfield 27, 3) := by decide +kernel
theorem dX4_copyFrom_45 : decode cX4_copyFrom 45 = .ok (.putfield 27, 3) := by decide +kernel
theorem dX4_copyFrom_48 : decode cX4_copyFrom 48 = .ok (.aload_n 0, 1) := by decide +kernel
theorem dX4_copyFrom_49 : decode cX4_copyFrom 49 = .ok (.aload_n 1, 1) := by decide +kernel
theorem dX4_copyFrom_50 : decode cX4_copyFrom 50 = .ok (.getfield 30, 3) := by decide +kernel
theorem dX4_copyFrom_53 : decode cX4_copyFrom 53 = .ok (.putfield 30, 3) := by decide +kernel
theorem dX4_copyFrom_56 : decode cX4_copyFrom 56 = .ok (.aload_n 0, 1) := by decide +kernel
theorem dX4_copyFrom_57 : decode cX4_copyFrom 57 = .ok (.aload_n 1, 1) := by decide +kernel
theorem dX4_copyFrom_58 : decode cX4_copyFrom 58 = .ok (.getfield 33, 3) := by decide +kernel
theorem dX4_copyFrom_61 : decode cX4_copyFrom 61 = .ok (.putfield 33, 3) := by decide +kernel
theorem dX4_copyFrom_64 : decode cX4_copyFrom 64 = .ok (.aload_n 0, 1) := by decide +kernel
theorem dX4_copyFrom_65 : decode cX4_copyFrom 65 = .ok (.aload_n 1, 1) := by decide +kernel
theorem dX4_copyFrom_66 : decode cX4_copyFrom 66 = .ok (.getfield 36, 3) := by decide +kernel
theorem dX4_copyFrom_69 : decode cX4_copyFrom 69 = .ok (.putfield 36, 3) := by decide +kernel
theorem dX4_copyFrom_72 : decode cX4_copyFrom 72 = .ok (.return_, 1) := by decide +kernel
set_option maxRecDepth 20000 in
theorem ggX5_init_X1_init : GoodIn wsX5_init wsX1_init := goodIn_r _ [22, 23, 2, 3, 24, 25, 26, 27, 28, 29, 30, 31, 32, 33, 34, 35, 36, 37, 38, 39, 40, 41, 42, 43, 44, 90, 91, 92, 93, 94, 95, 96, 97, 98, 99, 100, 113, 114, 115, 116, 117, 118, 119, 120, 121, 122, 123, 124, 125, 126] (by decide +kernel) (by decide +kernel)
set_option maxRecDepth 20000 in
theorem gX5_init_X1_init : GoodIn wsX5_init (wsX1_init) := ggX5_init_X1_init
set_option maxRecDepth 20000 in
theorem ggX5_init_X1_beginAnew : GoodIn wsX5_init wsX1_beginAnew := goodIn_r _ [48, 49, 50, 51, 52, 53, 54, 25, 55, 56, 57, 58, 90, 91, 92, 93, 94, 95, 96, 97, 98, 99, 100] (by decide +kernel) (by decide +kernel)
set_option maxRecDepth 20000 in
theorem gX5_init_X1_beginAnew : GoodIn wsX5_init (wsV RX5 16 RX1 yX1_beginAnew wsX1_beginAnew) := goodIn_app (goodIn_of _ (by decide +kernel)) ggX5_init_X1_beginAnew
set_option maxRecDepth 20000 in
theorem ggX5_init_X1_addLine : GoodIn wsX5_init wsX1_addLine := goodIn_r _ [62, 49, 63, 64, 65, 6, 66, 67, 68, 69, 70, 27, 32, 71, 72, 73, 31, 74, 75, 76, 77, 78, 90, 91, 92, 93, 94, 95, 96, 97, 98, 99, 100, 113, 114, 115, 116, 117] (by decide +kernel) (by decide +kernel)
set_option maxRecDepth 20000 in
theorem gX5_init_X1_addLine : GoodIn wsX5_init (wsV RX5 19 RX1 yX1_addLine wsX1_addLine) := goodIn_app (goodIn_of _ (by decide +kernel)) ggX5_init_X1_addLine
set_option maxRecDepth 20000 in
theorem ggX5_init_X2_init : GoodIn wsX5_init wsX2_init := goodIn_r _ [81, 82, 2, 3, 83, 84, 5, 6, 85, 21, 22, 23, 24, 25, 26, 27, 28, 29, 30, 31, 32, 33, 34, 35, 36, 37, 38, 39, 40, 41, 42, 43, 44, 107, 108, 109, 90, 91, 92, 93, 94, 95, 96, 97, 98, 99, 100, 113, 114, 115, 116, 117, 118, 119, 120, 121, 122, 123, 124, 125, 126] (by decide +kernel) (by decide +kernel)
set_option maxRecDepth 20000 in
theorem gX5_init_X2_init : GoodIn wsX5_init (wsX2_init) := ggX5_init_X2_init
set_option maxRecDepth 20000 in
theorem ggX5_init_X0_init : GoodIn wsX5_init wsX0_init := goodIn_r _ [87, 88, 2, 3, 24, 89, 110, 111, 112] (by decide +kernel) (by decide +kernel)
set_option maxRecDepth 20000 in
theorem gX5_init_X0_init_n43 : GoodIn wsX5_init (wsX0_init) := ggX5_init_X0_init
theorem dX5_init_0 : decode cX5_init 0 = .ok (.aload_n 0, 1) := by decide +kernel
theorem dX5_init_1 : decode cX5_init 1 = .ok (.invokespecial 1, 3) := by decide +kernel
theorem dX5_init_4 : decode cX5_init 4 = .ok (.aload_n 0, 1) := by decide +kernel
theorem dX5_init_5 : decode cX5_init 5 = .ok (.new 7, 3) := by decide +kernel
theorem dX5_init_8 : decode cX5_init 8 = .ok (.dup, 1) := by decide +kernel
theorem dX5_init_9 : decode cX5_init 9 = .ok (.invokespecial 9, 3) := by decide +kernel
theorem dX5_init_12 : decode cX5_init 12 = .ok (.putfield 10, 3) := by decide +kernel
theorem dX5_init_15 : decode cX5_init 15 = .ok (.aload_n 0, 1) := by decide +kernel
theorem dX5_init_16 : decode cX5_init 16 = .ok (.getfield 10, 3) := by decide +kernel
theorem dX5_init_19 : decode cX5_init 19 = .ok (.invokevirtual 16, 3) := by decide +kernel
theorem dX5_init_22 : decode cX5_init 22 = .ok (.aload_n 0, 1) := by decide +kernel
theorem dX5_init_23 : decode cX5_init 23 = .ok (.getfield 10, 3) := by decide +kernel
theorem dX5_init_26 : decode cX5_init 26 = .ok (.iconst 3, 1) := by decide +kernel
theorem dX5_init_27 : decode cX5_init 27 = .ok (.invokevirtual 19, 3) := by decide +kernel
theorem dX5_init_30 : decode cX5_init 30 = .ok (.pop, 1) := by decide +kernel
theorem dX5_init_31 : decode cX5_init 31 = .ok (.aload_n 0, 1) := by decide +kernel
theorem dX5_init_32 : decode cX5_init 32 = .ok (.new 7, 3) := by decide +kernel
theorem dX5_init_35 : decode cX5_init 35 = .ok (.dup, 1) := by decide +kernel
theorem dX5_init_36 : decode cX5_init 36 = .ok (.invokespecial 9, 3) := by decide +kernel
theorem dX5_init_39 : decode cX5_init 39 = .ok (.putfield 23, 3) := by decide +kernel
theorem dX5_init_42 : decode cX5_init 42 = .ok (.aload_n 0, 1) := by decide +kernel
theorem dX5_init_43 : decode cX5_init 43 = .ok (.new 26, 3) := by decide +kernel
theorem dX5_init_46 : decode cX5_init 46 = .ok (.dup, 1) := by decide +kernel
theorem dX5_init_47 : decode cX5_init 47 = .ok (.invokespecial 28, 3) := by decide +kernel
theorem dX5_init_50 : decode cX5_init 50 = .ok (.putfield 29, 3) := by decide +kernel
theorem dX5_init_53 : decode cX5_init 53 = .ok (.aload_n 0, 1) := by decide +kernel
theorem dX5_init_54 : decode cX5_init 54 = .ok (.iconst 2, 1) := by decide +kernel
theorem dX5_init_55 : decode cX5_init 55 = .ok (.anewarray 7, 3) := by decide +kernel
theorem dX5_init_58 : decode cX5_init 58 = .ok (.putfield 33, 3) := by decide +kernel
theorem dX5_init_61 : decode cX5_init 61 = .ok (.iconst 0, 1) := by decide +kernel
theorem dX5_init_62 : decode cX5_init 62 = .ok (.istore_n 1, 1) := by decide +kernel
theorem dX5_init_63 : decode cX5_init 63 = .ok (.iload_n 1, 1) := by decide +kernel
theorem dX5_init_64 : decode cX5_init 64 = .ok (.aload_n 0, 1) := by decide +kernel
theorem dX5_init_65 : decode cX5_init 65 = .ok (.getfield 33, 3) := by decide +kernel
theorem dX5_init_68 : decode cX5_init 68 = .ok (.arraylength, 1) := by decide +kernel
theorem dX5_init_69 : decode cX5_init 69 = .ok (.if_icmp .ge 22, 3) := by decide +kernel
theorem dX5_init_72 : decode cX5_init 72 = .ok (.aload_n 0, 1) := by decide +kernel
theorem dX5_init_73 : decode cX5_init 73 = .ok (.getfield 33, 3) := by decide +kernel
theorem dX5_init_76 : decode cX5_init 76 = .ok (.iload_n 1, 1) := by decide +kernel
theorem dX5_init_77 : decode cX5_init 77 = .ok (.new 7, 3) := by decide +kernel
theorem dX5_init_80 : decode cX5_init 80 = .ok (.dup, 1) := by decide +kernel
theorem dX5_init_81 : decode cX5_init 81 = .ok (.invokespecial 9, 3) := by decide +kernel
theorem dX5_init_84 : decode cX5_init 84 = .ok (.aastore, 1) := by decide +kernel
theorem dX5_init_85 : decode cX5_init 85 = .ok (.iinc 1 1, 3) := by decide +kernel
theorem dX5_init_88 : decode cX5_init 88 = .ok (.goto (-25), 3) := by decide +kernel
theorem dX5_init_91 : decode cX5_init 91 = .ok (.aload_n 0, 1) := by decide +kernel
theorem dX5_init_92 : decode cX5_init 92 = .ok (.iconst 2, 1) := by decide +kernel
theorem dX5_init_93 : decode cX5_init 93 = .ok (.newarray .boolean, 2) := by decide +kernel
theorem dX5_init_95 : decode cX5_init 95 = .ok (.putfield 37, 3) := by decide +kernel
theorem dX5_init_98 : decode cX5_init 98 = .ok (.aload_n 0, 1) := by decide +kernel
theorem dX5_init_99 : decode cX5_init 99 = .ok (.new 41, 3) := by decide +kernel
theorem dX5_init_102 : decode cX5_init 102 = .ok (.dup, 1) := by decide +kernel
theorem dX5_init_103 : decode cX5_init 103 = .ok (.invokespecial 43, 3) := by decide +kernel
theorem dX5_init_106 : decode cX5_init 106 = .ok (.putfield 44, 3) := by decide +kernel
theorem dX5_init_109 : decode cX5_init 109 = .ok (.return_, 1) := by decide +kernel
set_option maxRecDepth 20000 in
theorem ggX5_about_X1_total : GoodIn wsX5_about wsX1_total := goodIn_r _ [8, 9, 10, 11, 12, 13, 14, 15, 16, 17, 7, 18, 19, 20, 21, 22, 23, 24, 25, 26, 27, 28, 29, 30, 37, 38, 39, 40, 41, 42, 43, 44, 45, 46, 47, 48, 49, 50, 51, 52, 53, 54, 55, 56] (by decide +kernel) (by decide +kernel)
set_option maxRecDepth 20000 in
theorem gX5_about_X1_total : GoodIn wsX5_about (wsV RX5 85 RX1 yX1_total wsX1_total) := goodIn_app (goodIn_of _ (by decide +kernel)) ggX5_about_X1_total
theorem dX5_about_0 : decode cX5_about 0 = .ok (.iload_n 1, 1) := by decide +kernel
theorem dX5_about_1 : decode cX5_about 1 = .ok (.ifCond .lt 9, 3) := by decide +kernel
theorem dX5_about_4 : decode cX5_about 4 = .ok (.iload_n 1, 1) := by decide +kernel
theorem dX5_about_5 : decode cX5_about 5 = .ok (.bipush 9, 2) := by decide +kernel
theorem dX5_about_7 : decode cX5_about 7 = .ok (.if_icmp .le 13, 3) := by decide +kernel
theorem dX5_about_10 : decode cX5_about 10 = .ok (.new 48, 3) := by decide +kernel
theorem dX5_about_13 : decode cX5_about 13 = .ok (.dup, 1) := by decide +kernel
theorem dX5_about_14 : decode cX5_about 14 = .ok (.ldc 83, 2) := by decide +kernel
theorem dX5_about_16 : decode cX5_about 16 = .ok (.invokespecial 52, 3) := by decide +kernel
theorem dX5_about_19 : decode cX5_about 19 = .ok (.athrow, 1) := by decide +kernel
theorem dX5_about_20 : decode cX5_about 20 = .ok (.aload_n 0, 1) := by decide +kernel
theorem dX5_about_21 : decode cX5_about 21 = .ok (.getfield 10, 3) := by decide +kernel
theorem dX5_about_24 : decode cX5_about 24 = .ok (.iload_n 1, 1) := by decide +kernel
theorem dX5_about_25 : decode cX5_about 25 = .ok (.invokevirtual 85, 3) := by decide +kernel
theorem dX5_about_28 : decode cX5_about 28 = .ok (.ireturn, 1) := by decide +kernel
set_option maxRecDepth 20000 in
theorem ggX5_line_X5_requireLine : GoodIn wsX5_line wsX5_requireLine := goodIn_ca (goodIn_r _ [8, 9, 10, 3, 11, 12, 13, 14, 15, 16, 53, 54, 55, 56, 57, 58, 59, 60, 61, 62, 63, 64, 65, 66, 67, 68, 69] (by decide +kernel) (by decide +kernel)) (goodIn_sub (fun _ h => List.mem_cons_of_mem _ (List.mem_append_right _ h)) (by decide +kernel))
set_option maxRecDepth 20000 in
theorem gX5_line_X5_requireLine : GoodIn wsX5_line (wsV RX5 88 RX5 yX5_requireLine wsX5_requireLine) := goodIn_app (goodIn_of _ (by decide +kernel)) ggX5_line_X5_requireLine
set_option maxRecDepth 20000 in
theorem ggX5_line_X1_numberOfLine : GoodIn wsX5_line wsX1_numberOfLine := goodIn_r _ [20, 21, 22, 23, 24, 25, 26, 27, 14, 28, 29, 30, 31, 32, 33, 34, 35, 36, 37, 38, 39, 40, 41, 42, 43, 44, 45, 46, 47, 48, 49, 50, 51, 52, 70, 71, 72, 73, 74, 59, 60, 61, 62, 63, 64, 65, 66, 67, 68, 69, 75, 76, 77, 78, 79, 80, 81, 82, 83] (by decide +kernel) (by decide +kernel)
set_option maxRecDepth 20000 in
theorem gX5_line_X1_numberOfLine : GoodIn wsX5_line (wsV RX5 94 RX1 yX1_numberOfLine wsX1_numberOfLine) := goodIn_app (goodIn_of _ (by decide +kernel)) ggX5_line_X1_numberOfLine
theorem dX5_line_0 : decode cX5_line 0 = .ok (.aload_n 0, 1) := by decide +kernel
theorem dX5_line_1 : decode cX5_line 1 = .ok (.iload_n 1, 1) := by decide +kernel
theorem dX5_line_2 : decode cX5_line 2 = .ok (.invokevirtual 88, 3) := by decide +kernel
theorem dX5_line_5 : decode cX5_line 5 = .ok (.iload_n 2, 1) := by decide +kernel
theorem dX5_line_6 : decode cX5_line 6 = .ok (.ifCond .lt 8, 3) := by decide +kernel
theorem dX5_line_9 : decode cX5_line 9 = .ok (.iload_n 2, 1) := by decide +kernel
theorem dX5_line_10 : decode cX5_line 10 = .ok (.iconst 4, 1) := by decide +kernel
theorem dX5_line_11 : decode cX5_line 11 = .ok (.if_icmp .le 13, 3) := by decide +kernel
theorem dX5_line_14 : decode cX5_line 14 = .ok (.new 48, 3) := by decide +kernel
theorem dX5_line_17 : decode cX5_line 17 = .ok (.dup, 1) := by decide +kernel
theorem dX5_line_18 : decode cX5_line 18 = .ok (.ldc 92, 2) := by decide +kernel
theorem dX5_line_20 : decode cX5_line 20 = .ok (.invokespecial 52, 3) := by decide +kernel
theorem dX5_line_23 : decode cX5_line 23 = .ok (.athrow, 1) := by decide +kernel
theorem dX5_line_24 : decode cX5_line 24 = .ok (.aload_n 0, 1) := by decide +kernel
theorem dX5_line_25 : decode cX5_line 25 = .ok (.getfield 10, 3) := by decide +kernel
theorem dX5_line_28 : decode cX5_line 28 = .ok (.iload_n 1, 1) := by decide +kernel
theorem dX5_line_29 : decode cX5_line 29 = .ok (.iload_n 2, 1) := by decide +kernel
theorem dX5_line_30 : decode cX5_line 30 = .ok (.invokevirtual 94, 3) := by decide +kernel
theorem dX5_line_33 : decode cX5_line 33 = .ok (.ireturn, 1) := by decide +kernel
set_option maxRecDepth 20000 in
theorem ggX5_at_X5_requireLine : GoodIn wsX5_at wsX5_requireLine := goodIn_ca (goodIn_r _ [8, 9, 10, 3, 11, 12, 13, 14, 15, 16, 34, 35, 36, 37, 38, 39, 40, 41, 42, 43, 44, 45, 46, 47, 48, 49, 50] (by decide +kernel) (by decide +kernel)) (goodIn_sub (fun _ h => List.mem_cons_of_mem _ (List.mem_append_right _ h)) (by decide +kernel))
set_option maxRecDepth 20000 in
theorem gX5_at_X5_requireLine : GoodIn wsX5_at (wsV RX5 88 RX5 yX5_requireLine wsX5_requireLine) := goodIn_app (goodIn_of _ (by decide +kernel)) ggX5_at_X5_requireLine
set_option maxRecDepth 20000 in
theorem ggX5_at_X1_lineOf : GoodIn wsX5_at wsX1_lineOf := goodIn_r _ [20, 21, 22, 40, 41, 42, 43, 44, 45, 46, 47, 48, 49, 50] (by decide +kernel) (by decide +kernel)
set_option maxRecDepth 20000 in
theorem gX5_at_X1_lineOf : GoodIn wsX5_at (wsV RX5 100 RX1 yX1_lineOf wsX1_lineOf) := goodIn_app (goodIn_of _ (by decide +kernel)) ggX5_at_X1_lineOf
set_option maxRecDepth 20000 in
theorem ggX5_at_X3_who : GoodIn wsX5_at wsX3_who := goodIn_r _ [27, 28, 29, 30, 31, 26, 32, 33, 51, 52, 53, 54, 55] (by decide +kernel) (by decide +kernel)
set_option maxRecDepth 20000 in
theorem gX5_at_X3_who : GoodIn wsX5_at (wsV RX5 104 RX3 yX3_who wsX3_who) := goodIn_app (goodIn_of _ (by decide +kernel)) ggX5_at_X3_who
theorem dX5_at_0 : decode cX5_at 0 = .ok (.aload_n 0, 1) := by decide +kernel
theorem dX5_at_1 : decode cX5_at 1 = .ok (.iload_n 1, 1) := by decide +kernel
theorem dX5_at_2 : decode cX5_at 2 = .ok (.invokevirtual 88, 3) := by decide +kernel
theorem dX5_at_5 : decode cX5_at 5 = .ok (.iload_n 2, 1) := by decide +kernel
theorem dX5_at_6 : decode cX5_at 6 = .ok (.ifCond .ge 13, 3) := by decide +kernel
theorem dX5_at_9 : decode cX5_at 9 = .ok (.new 48, 3) := by decide +kernel
theorem dX5_at_12 : decode cX5_at 12 = .ok (.dup, 1) := by decide +kernel
theorem dX5_at_13 : decode cX5_at 13 = .ok (.ldc 98, 2) := by decide +kernel
theorem dX5_at_15 : decode cX5_at 15 = .ok (.invokespecial 52, 3) := by decide +kernel
theorem dX5_at_18 : decode cX5_at 18 = .ok (.athrow, 1) := by decide +kernel
theorem dX5_at_19 : decode cX5_at 19 = .ok (.aload_n 0, 1) := by decide +kernel
theorem dX5_at_20 : decode cX5_at 20 = .ok (.getfield 10, 3) := by decide +kernel
theorem dX5_at_23 : decode cX5_at 23 = .ok (.iload_n 1, 1) := by decide +kernel
theorem dX5_at_24 : decode cX5_at 24 = .ok (.invokevirtual 100, 3) := by decide +kernel
theorem dX5_at_27 : decode cX5_at 27 = .ok (.iload_n 2, 1) := by decide +kernel
theorem dX5_at_28 : decode cX5_at 28 = .ok (.invokevirtual 104, 3) := by decide +kernel
theorem dX5_at_31 : decode cX5_at 31 = .ok (.ireturn, 1) := by decide +kernel
set_option maxRecDepth 20000 in
theorem ggX5_person_X5_requirePerson : GoodIn wsX5_person wsX5_requirePerson := goodIn_ca (goodIn_r _ [8, 9, 10, 3, 11, 12, 13, 14, 15, 16, 52, 53, 54, 55, 56, 57, 58, 59, 60, 61, 62, 63, 64, 65, 66, 67, 68] (by decide +kernel) (by decide +kernel)) (goodIn_sub (fun _ h => List.mem_cons_of_mem _ (List.mem_append_right _ h)) (by decide +kernel))
set_option maxRecDepth 20000 in
theorem gX5_person_X5_requirePerson : GoodIn wsX5_person (wsV RX5 109 RX5 yX5_requirePerson wsX5_requirePerson) := goodIn_app (goodIn_of _ (by decide +kernel)) ggX5_person_X5_requirePerson
set_option maxRecDepth 20000 in
theorem ggX5_person_X1_numberOfPerson : GoodIn wsX5_person wsX1_numberOfPerson := goodIn_r _ [20, 21, 22, 23, 24, 25, 26, 27, 28, 29, 30, 31, 14, 32, 33, 34, 35, 36, 37, 38, 39, 40, 41, 42, 43, 44, 45, 46, 47, 48, 49, 50, 51, 69, 70, 71, 72, 73, 74, 75, 76, 77, 58, 59, 60, 61, 62, 63, 64, 65, 66, 67, 68, 78, 79, 80, 81, 82] (by decide +kernel) (by decide +kernel)
set_option maxRecDepth 20000 in
theorem gX5_person_X1_numberOfPerson : GoodIn wsX5_person (wsV RX5 114 RX1 yX1_numberOfPerson wsX1_numberOfPerson) := goodIn_app (goodIn_of _ (by decide +kernel)) ggX5_person_X1_numberOfPerson
theorem dX5_person_0 : decode cX5_person 0 = .ok (.aload_n 0, 1) := by decide +kernel
theorem dX5_person_1 : decode cX5_person 1 = .ok (.iload_n 1, 1) := by decide +kernel
theorem dX5_person_2 : decode cX5_person 2 = .ok (.invokevirtual 109, 3) := by decide +kernel
theorem dX5_person_5 : decode cX5_person 5 = .ok (.iload_n 2, 1) := by decide +kernel
theorem dX5_person_6 : decode cX5_person 6 = .ok (.ifCond .lt 9, 3) := by decide +kernel
theorem dX5_person_9 : decode cX5_person 9 = .ok (.iload_n 2, 1) := by decide +kernel
theorem dX5_person_10 : decode cX5_person 10 = .ok (.bipush 8, 2) := by decide +kernel
theorem dX5_person_12 : decode cX5_person 12 = .ok (.if_icmp .le 13, 3) := by decide +kernel
theorem dX5_person_15 : decode cX5_person 15 = .ok (.new 48, 3) := by decide +kernel
theorem dX5_person_18 : decode cX5_person 18 = .ok (.dup, 1) := by decide +kernel
theorem dX5_person_19 : decode cX5_person 19 = .ok (.ldc 112, 2) := by decide +kernel
theorem dX5_person_21 : decode cX5_person 21 = .ok (.invokespecial 52, 3) := by decide +kernel
theorem dX5_person_24 : decode cX5_person 24 = .ok (.athrow, 1) := by decide +kernel
theorem dX5_person_25 : decode cX5_person 25 = .ok (.aload_n 0, 1) := by decide +kernel
theorem dX5_person_26 : decode cX5_person 26 = .ok (.getfield 10, 3) := by decide +kernel
theorem dX5_person_29 : decode cX5_person 29 = .ok (.iload_n 1, 1) := by decide +kernel
theorem dX5_person_30 : decode cX5_person 30 = .ok (.iload_n 2, 1) := by decide +kernel
theorem dX5_person_31 : decode cX5_person 31 = .ok (.invokevirtual 114, 3) := by decide +kernel
theorem dX5_person_34 : decode cX5_person 34 = .ok (.ireturn, 1) := by decide +kernel
set_option maxRecDepth 20000 in
theorem ggX5_setting_X5_requireSetting : GoodIn wsX5_setting wsX5_requireSetting := goodIn_ca (goodIn_r _ [5, 6, 7] (by decide +kernel) (by decide +kernel)) (goodIn_sub (fun _ h => List.mem_cons_of_mem _ (List.mem_append_right _ h)) (by decide +kernel))
set_option maxRecDepth 20000 in
theorem gX5_setting_X5_requireSetting : GoodIn wsX5_setting (va_wsS RX5 117 yX5_requireSetting wsX5_requireSetting) := goodIn_app (goodIn_of _ (by decide +kernel)) ggX5_setting_X5_requireSetting
set_option maxRecDepth 20000 in
theorem ggX5_setting_X1_settingOf : GoodIn wsX5_setting wsX1_settingOf := goodIn_r _ [12, 13, 20, 21, 22, 23, 24, 25, 26, 27, 28, 29, 30] (by decide +kernel) (by decide +kernel)
set_option maxRecDepth 20000 in
theorem gX5_setting_X1_settingOf : GoodIn wsX5_setting (wsV RX5 120 RX1 yX1_settingOf wsX1_settingOf) := goodIn_app (goodIn_of _ (by decide +kernel)) ggX5_setting_X1_settingOf
theorem dX5_setting_0 : decode cX5_setting 0 = .ok (.iload_n 1, 1) := by decide +kernel
theorem dX5_setting_1 : decode cX5_setting 1 = .ok (.invokestatic 117, 3) := by decide +kernel
theorem dX5_setting_4 : decode cX5_setting 4 = .ok (.aload_n 0, 1) := by decide +kernel
theorem dX5_setting_5 : decode cX5_setting 5 = .ok (.getfield 10, 3) := by decide +kernel
theorem dX5_setting_8 : decode cX5_setting 8 = .ok (.iload_n 1, 1) := by decide +kernel
theorem dX5_setting_9 : decode cX5_setting 9 = .ok (.invokevirtual 120, 3) := by decide +kernel
theorem dX5_setting_12 : decode cX5_setting 12 = .ok (.ireturn, 1) := by decide +kernel
set_option maxRecDepth 20000 in
theorem ggX5_open_X1_hasAllLines : GoodIn wsX5_open wsX1_hasAllLines := goodIn_r _ [11, 12, 95, 96, 97, 98, 99, 100, 101, 102, 103, 104, 105] (by decide +kernel) (by decide +kernel)
set_option maxRecDepth 20000 in
theorem gX5_open_X1_hasAllLines : GoodIn wsX5_open (wsV RX5 125 RX1 yX1_hasAllLines wsX1_hasAllLines) := goodIn_app (goodIn_of _ (by decide +kernel)) ggX5_open_X1_hasAllLines
set_option maxRecDepth 20000 in
theorem ggX5_open_X2_remember : GoodIn wsX5_open wsX2_remember := goodIn_r _ [17, 18, 19, 20, 21, 22, 16, 23, 24, 25, 26, 27, 28, 29, 30, 31, 10, 32, 12, 33, 34, 35, 36, 37, 38, 39, 40, 41, 42, 43, 44, 45, 46, 47, 48, 49, 50, 51, 52, 53, 54, 55, 56, 57, 58, 59, 60, 61, 62, 63, 64, 65, 66, 67, 68, 69, 70, 71, 72, 73, 74, 75, 76, 77, 78, 79, 106, 107, 108, 95, 96, 97, 98, 99, 100, 101, 102, 103, 104, 105, 109, 110, 111, 112, 113, 114, 115, 116, 117, 118, 119, 120, 121, 122] (by decide +kernel) (by decide +kernel)
set_option maxRecDepth 20000 in
theorem gX5_open_X2_remember : GoodIn wsX5_open (wsV RX5 130 RX2 yX2_remember wsX2_remember) := goodIn_app (goodIn_of _ (by decide +kernel)) ggX5_open_X2_remember
set_option maxRecDepth 20000 in
theorem ggX5_open_X1_addLine : GoodIn wsX5_open wsX1_addLine := goodIn_r _ [83, 12, 84, 8, 9, 10, 11, 45, 46, 47, 48, 43, 49, 85, 86, 87, 53, 88, 55, 56, 57, 58, 95, 96, 97, 98, 99, 100, 101, 102, 103, 104, 105, 109, 110, 111, 112, 113] (by decide +kernel) (by decide +kernel)
set_option maxRecDepth 20000 in
theorem gX5_open_X1_addLine : GoodIn wsX5_open (wsV RX5 19 RX1 yX1_addLine wsX1_addLine) := goodIn_app (goodIn_of _ (by decide +kernel)) ggX5_open_X1_addLine
theorem dX5_open_0 : decode cX5_open 0 = .ok (.iload_n 1, 1) := by decide +kernel
theorem dX5_open_1 : decode cX5_open 1 = .ok (.iconst 1, 1) := by decide +kernel
theorem dX5_open_2 : decode cX5_open 2 = .ok (.if_icmp .lt 9, 3) := by decide +kernel
theorem dX5_open_5 : decode cX5_open 5 = .ok (.iload_n 1, 1) := by decide +kernel
theorem dX5_open_6 : decode cX5_open 6 = .ok (.bipush 20, 2) := by decide +kernel
theorem dX5_open_8 : decode cX5_open 8 = .ok (.if_icmp .le 13, 3) := by decide +kernel
theorem dX5_open_11 : decode cX5_open 11 = .ok (.new 48, 3) := by decide +kernel
theorem dX5_open_14 : decode cX5_open 14 = .ok (.dup, 1) := by decide +kernel
theorem dX5_open_15 : decode cX5_open 15 = .ok (.ldc 123, 2) := by decide +kernel
theorem dX5_open_17 : decode cX5_open 17 = .ok (.invokespecial 52, 3) := by decide +kernel
theorem dX5_open_20 : decode cX5_open 20 = .ok (.athrow, 1) := by decide +kernel
theorem dX5_open_21 : decode cX5_open 21 = .ok (.aload_n 0, 1) := by decide +kernel
theorem dX5_open_22 : decode cX5_open 22 = .ok (.getfield 10, 3) := by decide +kernel
theorem dX5_open_25 : decode cX5_open 25 = .ok (.invokevirtual 125, 3) := by decide +kernel
theorem dX5_open_28 : decode cX5_open 28 = .ok (.ifCond .eq 13, 3) := by decide +kernel
theorem dX5_open_31 : decode cX5_open 31 = .ok (.new 59, 3) := by decide +kernel
theorem dX5_open_34 : decode cX5_open 34 = .ok (.dup, 1) := by decide +kernel
theorem dX5_open_35 : decode cX5_open 35 = .ok (.ldc 128, 2) := by decide +kernel
theorem dX5_open_37 : decode cX5_open 37 = .ok (.invokespecial 63, 3) := by decide +kernel
theorem dX5_open_40 : decode cX5_open 40 = .ok (.athrow, 1) := by decide +kernel
theorem dX5_open_41 : decode cX5_open 41 = .ok (.aload_n 0, 1) := by decide +kernel
theorem dX5_open_42 : decode cX5_open 42 = .ok (.getfield 29, 3) := by decide +kernel
theorem dX5_open_45 : decode cX5_open 45 = .ok (.aload_n 0, 1) := by decide +kernel
theorem dX5_open_46 : decode cX5_open 46 = .ok (.getfield 10, 3) := by decide +kernel
theorem dX5_open_49 : decode cX5_open 49 = .ok (.invokevirtual 130, 3) := by decide +kernel
theorem dX5_open_52 : decode cX5_open 52 = .ok (.aload_n 0, 1) := by decide +kernel
theorem dX5_open_53 : decode cX5_open 53 = .ok (.getfield 10, 3) := by decide +kernel
theorem dX5_open_56 : decode cX5_open 56 = .ok (.iload_n 1, 1) := by decide +kernel
theorem dX5_open_57 : decode cX5_open 57 = .ok (.invokevirtual 19, 3) := by decide +kernel
theorem dX5_open_60 : decode cX5_open 60 = .ok (.ireturn, 1) := by decide +kernel
set_option maxRecDepth 20000 in
theorem ggX5_come_X5_requireLine : GoodIn wsX5_come wsX5_requireLine := goodIn_ca (goodIn_r _ [11, 12, 13, 5, 14, 15, 16, 17, 18, 19, 109, 110, 111, 112, 113, 114, 115, 116, 117, 118, 119, 120, 121, 122, 123, 124, 125] (by decide +kernel) (by decide +kernel)) (goodIn_sub (fun _ h => List.mem_cons_of_mem _ (List.mem_append_right _ h)) (by decide +kernel))
set_option maxRecDepth 20000 in
theorem gX5_come_X5_requireLine : GoodIn wsX5_come (wsV RX5 88 RX5 yX5_requireLine wsX5_requireLine) := goodIn_app (goodIn_of _ (by decide +kernel)) ggX5_come_X5_requireLine
set_option maxRecDepth 20000 in
theorem ggX5_come_X5_isKind : GoodIn wsX5_come wsX5_isKind := goodIn_r _ [22] (by decide +kernel) (by decide +kernel)
set_option maxRecDepth 20000 in
theorem gX5_come_X5_isKind : GoodIn wsX5_come (va_wsS RX5 134 yX5_isKind wsX5_isKind) := goodIn_app (goodIn_of _ (by decide +kernel)) ggX5_come_X5_isKind
set_option maxRecDepth 20000 in
theorem ggX5_come_X1_mayEnter : GoodIn wsX5_come wsX1_mayEnter := goodIn_r _ [26, 27, 28, 29, 15, 16, 17, 18, 19, 21, 10, 22, 30, 31, 32, 33, 34, 35, 115, 116, 117, 118, 119, 120, 121, 122, 123, 124, 125, 126, 127, 128, 129, 130] (by decide +kernel) (by decide +kernel)
set_option maxRecDepth 20000 in
theorem gX5_come_X1_mayEnter : GoodIn wsX5_come (wsV RX5 140 RX1 yX1_mayEnter wsX1_mayEnter) := goodIn_app (goodIn_of _ (by decide +kernel)) ggX5_come_X1_mayEnter
