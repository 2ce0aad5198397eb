theorem dX0_init_0 : decode cX0_init 0 = .ok (.aload_n 0, 1) := by decide +kernel
theorem dX0_init_1 : decode cX0_init 1 = .ok (.invokespecial 3, 3) := by decide +kernel
theorem dX0_init_4 : decode cX0_init 4 = .ok (.aload_n 0, 1) := by decide +kernel
theorem dX0_init_5 : decode cX0_init 5 = .ok (.bipush 100, 2) := by decide +kernel
theorem dX0_init_7 : decode cX0_init 7 = .ok (.newarray .int, 2) := by decide +kernel
theorem dX0_init_9 : decode cX0_init 9 = .ok (.putfield 9, 3) := by decide +kernel
theorem dX0_init_12 : decode cX0_init 12 = .ok (.return_, 1) := by decide +kernel
theorem dX0_isFull_0 : decode cX0_isFull 0 = .ok (.aload_n 0, 1) := by decide +kernel
theorem dX0_isFull_1 : decode cX0_isFull 1 = .ok (.getfield 15, 3) := by decide +kernel
theorem dX0_isFull_4 : decode cX0_isFull 4 = .ok (.aload_n 0, 1) := by decide +kernel
theorem dX0_isFull_5 : decode cX0_isFull 5 = .ok (.getfield 9, 3) := by decide +kernel
theorem dX0_isFull_8 : decode cX0_isFull 8 = .ok (.arraylength, 1) := by decide +kernel
theorem dX0_isFull_9 : decode cX0_isFull 9 = .ok (.if_icmp .lt 7, 3) := by decide +kernel
theorem dX0_isFull_12 : decode cX0_isFull 12 = .ok (.iconst 1, 1) := by decide +kernel
theorem dX0_isFull_13 : decode cX0_isFull 13 = .ok (.goto 4, 3) := by decide +kernel
theorem dX0_isFull_16 : decode cX0_isFull 16 = .ok (.iconst 0, 1) := by decide +kernel
theorem dX0_isFull_17 : decode cX0_isFull 17 = .ok (.ireturn, 1) := by decide +kernel
set_option maxRecDepth 20000 in
theorem ggX0_add_X0_isFull : GoodIn wsX0_add wsX0_isFull := goodIn_r _ [7, 2, 1, 8, 9, 10] (by decide +kernel) (by decide +kernel)
set_option maxRecDepth 20000 in
theorem gX0_add_X0_isFull : GoodIn wsX0_add (wsV RX0 19 RX0 yX0_isFull wsX0_isFull) := goodIn_app (goodIn_of _ (by decide +kernel)) ggX0_add_X0_isFull
theorem dX0_add_0 : decode cX0_add 0 = .ok (.aload_n 0, 1) := by decide +kernel
theorem dX0_add_1 : decode cX0_add 1 = .ok (.invokevirtual 19, 3) := by decide +kernel
theorem dX0_add_4 : decode cX0_add 4 = .ok (.ifCond .ne 23, 3) := by decide +kernel
theorem dX0_add_7 : decode cX0_add 7 = .ok (.aload_n 0, 1) := by decide +kernel
theorem dX0_add_8 : decode cX0_add 8 = .ok (.getfield 9, 3) := by decide +kernel
theorem dX0_add_11 : decode cX0_add 11 = .ok (.aload_n 0, 1) := by decide +kernel
theorem dX0_add_12 : decode cX0_add 12 = .ok (.getfield 15, 3) := by decide +kernel
theorem dX0_add_15 : decode cX0_add 15 = .ok (.iload_n 1, 1) := by decide +kernel
theorem dX0_add_16 : decode cX0_add 16 = .ok (.iastore, 1) := by decide +kernel
theorem dX0_add_17 : decode cX0_add 17 = .ok (.aload_n 0, 1) := by decide +kernel
theorem dX0_add_18 : decode cX0_add 18 = .ok (.dup, 1) := by decide +kernel
theorem dX0_add_19 : decode cX0_add 19 = .ok (.getfield 15, 3) := by decide +kernel
theorem dX0_add_22 : decode cX0_add 22 = .ok (.iconst 1, 1) := by decide +kernel
theorem dX0_add_23 : decode cX0_add 23 = .ok (.iadd, 1) := by decide +kernel
theorem dX0_add_24 : decode cX0_add 24 = .ok (.putfield 15, 3) := by decide +kernel
theorem dX0_add_27 : decode cX0_add 27 = .ok (.aload_n 0, 1) := by decide +kernel
theorem dX0_add_28 : decode cX0_add 28 = .ok (.getfield 15, 3) := by decide +kernel
theorem dX0_add_31 : decode cX0_add 31 = .ok (.ireturn, 1) := by decide +kernel
theorem dX0_drop_0 : decode cX0_drop 0 = .ok (.aload_n 0, 1) := by decide +kernel
theorem dX0_drop_1 : decode cX0_drop 1 = .ok (.getfield 15, 3) := by decide +kernel
theorem dX0_drop_4 : decode cX0_drop 4 = .ok (.istore_n 1, 1) := by decide +kernel
theorem dX0_drop_5 : decode cX0_drop 5 = .ok (.aload_n 0, 1) := by decide +kernel
theorem dX0_drop_6 : decode cX0_drop 6 = .ok (.iconst 0, 1) := by decide +kernel
theorem dX0_drop_7 : decode cX0_drop 7 = .ok (.putfield 15, 3) := by decide +kernel
theorem dX0_drop_10 : decode cX0_drop 10 = .ok (.iload_n 1, 1) := by decide +kernel
theorem dX0_drop_11 : decode cX0_drop 11 = .ok (.ireturn, 1) := by decide +kernel
theorem dX0_charAt_0 : decode cX0_charAt 0 = .ok (.iload_n 1, 1) := by decide +kernel
theorem dX0_charAt_1 : decode cX0_charAt 1 = .ok (.ifCond .lt 20, 3) := by decide +kernel
theorem dX0_charAt_4 : decode cX0_charAt 4 = .ok (.iload_n 1, 1) := by decide +kernel
theorem dX0_charAt_5 : decode cX0_charAt 5 = .ok (.aload_n 0, 1) := by decide +kernel
theorem dX0_charAt_6 : decode cX0_charAt 6 = .ok (.getfield 15, 3) := by decide +kernel
theorem dX0_charAt_9 : decode cX0_charAt 9 = .ok (.if_icmp .ge 12, 3) := by decide +kernel
theorem dX0_charAt_12 : decode cX0_charAt 12 = .ok (.aload_n 0, 1) := by decide +kernel
theorem dX0_charAt_13 : decode cX0_charAt 13 = .ok (.getfield 9, 3) := by decide +kernel
theorem dX0_charAt_16 : decode cX0_charAt 16 = .ok (.iload_n 1, 1) := by decide +kernel
theorem dX0_charAt_17 : decode cX0_charAt 17 = .ok (.iaload, 1) := by decide +kernel
theorem dX0_charAt_18 : decode cX0_charAt 18 = .ok (.goto 4, 3) := by decide +kernel
theorem dX0_charAt_21 : decode cX0_charAt 21 = .ok (.iconst (-1), 1) := by decide +kernel
theorem dX0_charAt_22 : decode cX0_charAt 22 = .ok (.ireturn, 1) := by decide +kernel
set_option maxRecDepth 20000 in
theorem ggX0_digitAt_X0_charAt : GoodIn wsX0_digitAt wsX0_charAt := goodIn_r _ [5, 6, 7, 8, 9, 10] (by decide +kernel) (by decide +kernel)
set_option maxRecDepth 20000 in
theorem gX0_digitAt_X0_charAt : GoodIn wsX0_digitAt (wsV RX0 23 RX0 yX0_charAt wsX0_charAt) := goodIn_app (goodIn_of _ (by decide +kernel)) ggX0_digitAt_X0_charAt
theorem dX0_digitAt_0 : decode cX0_digitAt 0 = .ok (.aload_n 0, 1) := by decide +kernel
theorem dX0_digitAt_1 : decode cX0_digitAt 1 = .ok (.iload_n 1, 1) := by decide +kernel
theorem dX0_digitAt_2 : decode cX0_digitAt 2 = .ok (.invokevirtual 23, 3) := by decide +kernel
theorem dX0_digitAt_5 : decode cX0_digitAt 5 = .ok (.bipush 48, 2) := by decide +kernel
theorem dX0_digitAt_7 : decode cX0_digitAt 7 = .ok (.isub, 1) := by decide +kernel
theorem dX0_digitAt_8 : decode cX0_digitAt 8 = .ok (.ireturn, 1) := by decide +kernel
set_option maxRecDepth 20000 in
theorem ggX0_numberAt_X0_digitAt : GoodIn wsX0_numberAt wsX0_digitAt := goodIn_r _ [5, 6, 7, 8, 4, 9, 10, 11, 12, 13, 14] (by decide +kernel) (by decide +kernel)
set_option maxRecDepth 20000 in
theorem gX0_numberAt_X0_digitAt : GoodIn wsX0_numberAt (wsV RX0 27 RX0 yX0_digitAt wsX0_digitAt) := goodIn_app (goodIn_of _ (by decide +kernel)) ggX0_numberAt_X0_digitAt
theorem dX0_numberAt_0 : decode cX0_numberAt 0 = .ok (.bipush 10, 2) := by decide +kernel
theorem dX0_numberAt_2 : decode cX0_numberAt 2 = .ok (.aload_n 0, 1) := by decide +kernel
theorem dX0_numberAt_3 : decode cX0_numberAt 3 = .ok (.iload_n 1, 1) := by decide +kernel
theorem dX0_numberAt_4 : decode cX0_numberAt 4 = .ok (.invokevirtual 27, 3) := by decide +kernel
theorem dX0_numberAt_7 : decode cX0_numberAt 7 = .ok (.imul, 1) := by decide +kernel
theorem dX0_numberAt_8 : decode cX0_numberAt 8 = .ok (.aload_n 0, 1) := by decide +kernel
theorem dX0_numberAt_9 : decode cX0_numberAt 9 = .ok (.iload_n 1, 1) := by decide +kernel
theorem dX0_numberAt_10 : decode cX0_numberAt 10 = .ok (.iconst 1, 1) := by decide +kernel
theorem dX0_numberAt_11 : decode cX0_numberAt 11 = .ok (.iadd, 1) := by decide +kernel
theorem dX0_numberAt_12 : decode cX0_numberAt 12 = .ok (.invokevirtual 27, 3) := by decide +kernel
theorem dX0_numberAt_15 : decode cX0_numberAt 15 = .ok (.iadd, 1) := by decide +kernel
theorem dX0_numberAt_16 : decode cX0_numberAt 16 = .ok (.ireturn, 1) := by decide +kernel
set_option maxRecDepth 20000 in
theorem ggX0_firstError_X0_takeLines : GoodIn wsX0_firstError wsX0_takeLines := goodIn_r _ [7, 1, 8, 9, 10, 6, 11, 12, 13, 14, 15, 2, 16, 17, 18, 19, 20, 21, 22, 23, 24, 33, 34, 35] (by decide +kernel) (by decide +kernel)
set_option maxRecDepth 20000 in
theorem gX0_firstError_X0_takeLines : GoodIn wsX0_firstError (wsV RX0 33 RX0 yX0_takeLines wsX0_takeLines) := goodIn_app (goodIn_of _ (by decide +kernel)) ggX0_firstError_X0_takeLines
set_option maxRecDepth 20000 in
theorem ggX0_firstError_X0_takeCommand : GoodIn wsX0_firstError wsX0_takeCommand := goodIn_r _ [28, 1, 12, 13, 14, 6, 15, 2, 16, 8, 9, 10, 11, 29, 30, 31, 32, 33, 34, 35] (by decide +kernel) (by decide +kernel)
set_option maxRecDepth 20000 in
theorem gX0_firstError_X0_takeCommand : GoodIn wsX0_firstError (wsV RX0 36 RX0 yX0_takeCommand wsX0_takeCommand) := goodIn_app (goodIn_of _ (by decide +kernel)) ggX0_firstError_X0_takeCommand
theorem dX0_firstError_0 : decode cX0_firstError 0 = .ok (.aload_n 0, 1) := by decide +kernel
theorem dX0_firstError_1 : decode cX0_firstError 1 = .ok (.iconst 0, 1) := by decide +kernel
theorem dX0_firstError_2 : decode cX0_firstError 2 = .ok (.putfield 30, 3) := by decide +kernel
theorem dX0_firstError_5 : decode cX0_firstError 5 = .ok (.aload_n 0, 1) := by decide +kernel
theorem dX0_firstError_6 : decode cX0_firstError 6 = .ok (.invokevirtual 33, 3) := by decide +kernel
theorem dX0_firstError_9 : decode cX0_firstError 9 = .ok (.ifCond .ne 8, 3) := by decide +kernel
theorem dX0_firstError_12 : decode cX0_firstError 12 = .ok (.aload_n 0, 1) := by decide +kernel
theorem dX0_firstError_13 : decode cX0_firstError 13 = .ok (.getfield 30, 3) := by decide +kernel
theorem dX0_firstError_16 : decode cX0_firstError 16 = .ok (.ireturn, 1) := by decide +kernel
theorem dX0_firstError_17 : decode cX0_firstError 17 = .ok (.iconst 0, 1) := by decide +kernel
theorem dX0_firstError_18 : decode cX0_firstError 18 = .ok (.istore_n 1, 1) := by decide +kernel
theorem dX0_firstError_19 : decode cX0_firstError 19 = .ok (.iload_n 1, 1) := by decide +kernel
theorem dX0_firstError_20 : decode cX0_firstError 20 = .ok (.bipush 100, 2) := by decide +kernel
theorem dX0_firstError_22 : decode cX0_firstError 22 = .ok (.if_icmp .ge 32, 3) := by decide +kernel
theorem dX0_firstError_25 : decode cX0_firstError 25 = .ok (.aload_n 0, 1) := by decide +kernel
theorem dX0_firstError_26 : decode cX0_firstError 26 = .ok (.getfield 30, 3) := by decide +kernel
theorem dX0_firstError_29 : decode cX0_firstError 29 = .ok (.aload_n 0, 1) := by decide +kernel
theorem dX0_firstError_30 : decode cX0_firstError 30 = .ok (.getfield 15, 3) := by decide +kernel
theorem dX0_firstError_33 : decode cX0_firstError 33 = .ok (.if_icmp .ge 21, 3) := by decide +kernel
theorem dX0_firstError_36 : decode cX0_firstError 36 = .ok (.aload_n 0, 1) := by decide +kernel
theorem dX0_firstError_37 : decode cX0_firstError 37 = .ok (.invokevirtual 36, 3) := by decide +kernel
theorem dX0_firstError_40 : decode cX0_firstError 40 = .ok (.ifCond .ne 8, 3) := by decide +kernel
theorem dX0_firstError_43 : decode cX0_firstError 43 = .ok (.aload_n 0, 1) := by decide +kernel
theorem dX0_firstError_44 : decode cX0_firstError 44 = .ok (.getfield 30, 3) := by decide +kernel
theorem dX0_firstError_47 : decode cX0_firstError 47 = .ok (.ireturn, 1) := by decide +kernel
theorem dX0_firstError_48 : decode cX0_firstError 48 = .ok (.iinc 1 1, 3) := by decide +kernel
theorem dX0_firstError_51 : decode cX0_firstError 51 = .ok (.goto (-32), 3) := by decide +kernel
theorem dX0_firstError_54 : decode cX0_firstError 54 = .ok (.iconst (-1), 1) := by decide +kernel
theorem dX0_firstError_55 : decode cX0_firstError 55 = .ok (.ireturn, 1) := by decide +kernel
set_option maxRecDepth 20000 in
theorem ggX0_take_X0_charAt : GoodIn wsX0_take wsX0_charAt := goodIn_r _ [6, 7, 8, 9, 10, 11] (by decide +kernel) (by decide +kernel)
set_option maxRecDepth 20000 in
theorem gX0_take_X0_charAt : GoodIn wsX0_take (wsV RX0 23 RX0 yX0_charAt wsX0_charAt) := goodIn_app (goodIn_of _ (by decide +kernel)) ggX0_take_X0_charAt
theorem dX0_take_0 : decode cX0_take 0 = .ok (.aload_n 0, 1) := by decide +kernel
theorem dX0_take_1 : decode cX0_take 1 = .ok (.aload_n 0, 1) := by decide +kernel
theorem dX0_take_2 : decode cX0_take 2 = .ok (.getfield 30, 3) := by decide +kernel
theorem dX0_take_5 : decode cX0_take 5 = .ok (.invokevirtual 23, 3) := by decide +kernel
theorem dX0_take_8 : decode cX0_take 8 = .ok (.istore_n 3, 1) := by decide +kernel
theorem dX0_take_9 : decode cX0_take 9 = .ok (.iload_n 3, 1) := by decide +kernel
theorem dX0_take_10 : decode cX0_take 10 = .ok (.iload_n 1, 1) := by decide +kernel
theorem dX0_take_11 : decode cX0_take 11 = .ok (.if_icmp .lt 8, 3) := by decide +kernel
theorem dX0_take_14 : decode cX0_take 14 = .ok (.iload_n 3, 1) := by decide +kernel
theorem dX0_take_15 : decode cX0_take 15 = .ok (.iload_n 2, 1) := by decide +kernel
theorem dX0_take_16 : decode cX0_take 16 = .ok (.if_icmp .le 5, 3) := by decide +kernel
theorem dX0_take_19 : decode cX0_take 19 = .ok (.iconst 0, 1) := by decide +kernel
theorem dX0_take_20 : decode cX0_take 20 = .ok (.ireturn, 1) := by decide +kernel
theorem dX0_take_21 : decode cX0_take 21 = .ok (.aload_n 0, 1) := by decide +kernel
theorem dX0_take_22 : decode cX0_take 22 = .ok (.dup, 1) := by decide +kernel
theorem dX0_take_23 : decode cX0_take 23 = .ok (.getfield 30, 3) := by decide +kernel
theorem dX0_take_26 : decode cX0_take 26 = .ok (.iconst 1, 1) := by decide +kernel
theorem dX0_take_27 : decode cX0_take 27 = .ok (.iadd, 1) := by decide +kernel
theorem dX0_take_28 : decode cX0_take 28 = .ok (.putfield 30, 3) := by decide +kernel
theorem dX0_take_31 : decode cX0_take 31 = .ok (.iconst 1, 1) := by decide +kernel
theorem dX0_take_32 : decode cX0_take 32 = .ok (.ireturn, 1) := by decide +kernel
set_option maxRecDepth 20000 in
theorem ggX0_takeLines_X0_take : GoodIn wsX0_takeLines wsX0_take := goodIn_r _ [6, 1, 7, 8, 9, 5, 10, 11, 12, 21, 22, 23] (by decide +kernel) (by decide +kernel)
set_option maxRecDepth 20000 in
theorem gX0_takeLines_X0_take : GoodIn wsX0_takeLines (wsV RX0 39 RX0 yX0_take wsX0_take) := goodIn_app (goodIn_of _ (by decide +kernel)) ggX0_takeLines_X0_take
set_option maxRecDepth 20000 in
theorem ggX0_takeLines_X0_digitAt : GoodIn wsX0_takeLines wsX0_digitAt := goodIn_r _ [16, 7, 8, 9, 5, 10, 11, 12, 21, 22, 23] (by decide +kernel) (by decide +kernel)
set_option maxRecDepth 20000 in
theorem gX0_takeLines_X0_digitAt : GoodIn wsX0_takeLines (wsV RX0 27 RX0 yX0_digitAt wsX0_digitAt) := goodIn_app (goodIn_of _ (by decide +kernel)) ggX0_takeLines_X0_digitAt
set_option maxRecDepth 20000 in
theorem ggX0_takeLines_X0_takePace : GoodIn wsX0_takeLines wsX0_takePace := goodIn_r _ [20, 1, 2, 3, 4, 5, 6, 7, 8, 9, 10, 11, 12, 21, 22, 23] (by decide +kernel) (by decide +kernel)
set_option maxRecDepth 20000 in
theorem gX0_takeLines_X0_takePace : GoodIn wsX0_takeLines (wsV RX0 43 RX0 yX0_takePace wsX0_takePace) := goodIn_app (goodIn_of _ (by decide +kernel)) ggX0_takeLines_X0_takePace
theorem dX0_takeLines_0 : decode cX0_takeLines 0 = .ok (.aload_n 0, 1) := by decide +kernel
theorem dX0_takeLines_1 : decode cX0_takeLines 1 = .ok (.bipush 87, 2) := by decide +kernel
theorem dX0_takeLines_3 : decode cX0_takeLines 3 = .ok (.bipush 87, 2) := by decide +kernel
theorem dX0_takeLines_5 : decode cX0_takeLines 5 = .ok (.invokevirtual 39, 3) := by decide +kernel
theorem dX0_takeLines_8 : decode cX0_takeLines 8 = .ok (.ifCond .eq 14, 3) := by decide +kernel
theorem dX0_takeLines_11 : decode cX0_takeLines 11 = .ok (.aload_n 0, 1) := by decide +kernel
theorem dX0_takeLines_12 : decode cX0_takeLines 12 = .ok (.bipush 49, 2) := by decide +kernel
theorem dX0_takeLines_14 : decode cX0_takeLines 14 = .ok (.bipush 51, 2) := by decide +kernel
theorem dX0_takeLines_16 : decode cX0_takeLines 16 = .ok (.invokevirtual 39, 3) := by decide +kernel
theorem dX0_takeLines_19 : decode cX0_takeLines 19 = .ok (.ifCond .ne 5, 3) := by decide +kernel
theorem dX0_takeLines_22 : decode cX0_takeLines 22 = .ok (.iconst 0, 1) := by decide +kernel
theorem dX0_takeLines_23 : decode cX0_takeLines 23 = .ok (.ireturn, 1) := by decide +kernel
theorem dX0_takeLines_24 : decode cX0_takeLines 24 = .ok (.aload_n 0, 1) := by decide +kernel
theorem dX0_takeLines_25 : decode cX0_takeLines 25 = .ok (.aload_n 0, 1) := by decide +kernel
theorem dX0_takeLines_26 : decode cX0_takeLines 26 = .ok (.getfield 30, 3) := by decide +kernel
theorem dX0_takeLines_29 : decode cX0_takeLines 29 = .ok (.iconst 1, 1) := by decide +kernel
theorem dX0_takeLines_30 : decode cX0_takeLines 30 = .ok (.isub, 1) := by decide +kernel
theorem dX0_takeLines_31 : decode cX0_takeLines 31 = .ok (.invokevirtual 27, 3) := by decide +kernel
theorem dX0_takeLines_34 : decode cX0_takeLines 34 = .ok (.istore_n 1, 1) := by decide +kernel
theorem dX0_takeLines_35 : decode cX0_takeLines 35 = .ok (.iconst 0, 1) := by decide +kernel
theorem dX0_takeLines_36 : decode cX0_takeLines 36 = .ok (.istore_n 2, 1) := by decide +kernel
theorem dX0_takeLines_37 : decode cX0_takeLines 37 = .ok (.iload_n 2, 1) := by decide +kernel
theorem dX0_takeLines_38 : decode cX0_takeLines 38 = .ok (.iload_n 1, 1) := by decide +kernel
theorem dX0_takeLines_39 : decode cX0_takeLines 39 = .ok (.if_icmp .ge 18, 3) := by decide +kernel
theorem dX0_takeLines_42 : decode cX0_takeLines 42 = .ok (.aload_n 0, 1) := by decide +kernel
theorem dX0_takeLines_43 : decode cX0_takeLines 43 = .ok (.invokevirtual 43, 3) := by decide +kernel
theorem dX0_takeLines_46 : decode cX0_takeLines 46 = .ok (.ifCond .ne 5, 3) := by decide +kernel
theorem dX0_takeLines_49 : decode cX0_takeLines 49 = .ok (.iconst 0, 1) := by decide +kernel
theorem dX0_takeLines_50 : decode cX0_takeLines 50 = .ok (.ireturn, 1) := by decide +kernel
theorem dX0_takeLines_51 : decode cX0_takeLines 51 = .ok (.iinc 2 1, 3) := by decide +kernel
theorem dX0_takeLines_54 : decode cX0_takeLines 54 = .ok (.goto (-17), 3) := by decide +kernel
theorem dX0_takeLines_57 : decode cX0_takeLines 57 = .ok (.iconst 1, 1) := by decide +kernel
theorem dX0_takeLines_58 : decode cX0_takeLines 58 = .ok (.ireturn, 1) := by decide +kernel
set_option maxRecDepth 20000 in
theorem ggX0_takePace_X0_take : GoodIn wsX0_takePace wsX0_take := goodIn_r _ [6, 1, 7, 8, 9, 5, 10, 11, 12, 13, 14, 15] (by decide +kernel) (by decide +kernel)
set_option maxRecDepth 20000 in
theorem gX0_takePace_X0_take : GoodIn wsX0_takePace (wsV RX0 39 RX0 yX0_take wsX0_take) := goodIn_app (goodIn_of _ (by decide +kernel)) ggX0_takePace_X0_take
set_option maxRecDepth 20000 in
theorem ggX0_takePace_X0_charAt : GoodIn wsX0_takePace wsX0_charAt := goodIn_r _ [10, 11, 12, 13, 14, 15] (by decide +kernel) (by decide +kernel)
set_option maxRecDepth 20000 in
theorem gX0_takePace_X0_charAt : GoodIn wsX0_takePace (wsV RX0 23 RX0 yX0_charAt wsX0_charAt) := goodIn_app (goodIn_of _ (by decide +kernel)) ggX0_takePace_X0_charAt
theorem dX0_takePace_0 : decode cX0_takePace 0 = .ok (.aload_n 0, 1) := by decide +kernel
theorem dX0_takePace_1 : decode cX0_takePace 1 = .ok (.bipush 48, 2) := by decide +kernel
theorem dX0_takePace_3 : decode cX0_takePace 3 = .ok (.bipush 50, 2) := by decide +kernel
theorem dX0_takePace_5 : decode cX0_takePace 5 = .ok (.invokevirtual 39, 3) := by decide +kernel
theorem dX0_takePace_8 : decode cX0_takePace 8 = .ok (.ifCond .ne 5, 3) := by decide +kernel
theorem dX0_takePace_11 : decode cX0_takePace 11 = .ok (.iconst 0, 1) := by decide +kernel
theorem dX0_takePace_12 : decode cX0_takePace 12 = .ok (.ireturn, 1) := by decide +kernel
theorem dX0_takePace_13 : decode cX0_takePace 13 = .ok (.aload_n 0, 1) := by decide +kernel
theorem dX0_takePace_14 : decode cX0_takePace 14 = .ok (.aload_n 0, 1) := by decide +kernel
theorem dX0_takePace_15 : decode cX0_takePace 15 = .ok (.getfield 30, 3) := by decide +kernel
theorem dX0_takePace_18 : decode cX0_takePace 18 = .ok (.iconst 1, 1) := by decide +kernel
theorem dX0_takePace_19 : decode cX0_takePace 19 = .ok (.isub, 1) := by decide +kernel
theorem dX0_takePace_20 : decode cX0_takePace 20 = .ok (.invokevirtual 23, 3) := by decide +kernel
theorem dX0_takePace_23 : decode cX0_takePace 23 = .ok (.lookupswitch 43 #[(48, 25), (49, 34)], 25) := by decide +kernel
theorem dX0_takePace_48 : decode cX0_takePace 48 = .ok (.aload_n 0, 1) := by decide +kernel
theorem dX0_takePace_49 : decode cX0_takePace 49 = .ok (.bipush 49, 2) := by decide +kernel
theorem dX0_takePace_51 : decode cX0_takePace 51 = .ok (.bipush 57, 2) := by decide +kernel
theorem dX0_takePace_53 : decode cX0_takePace 53 = .ok (.invokevirtual 39, 3) := by decide +kernel
theorem dX0_takePace_56 : decode cX0_takePace 56 = .ok (.ireturn, 1) := by decide +kernel
theorem dX0_takePace_57 : decode cX0_takePace 57 = .ok (.aload_n 0, 1) := by decide +kernel
theorem dX0_takePace_58 : decode cX0_takePace 58 = .ok (.bipush 48, 2) := by decide +kernel
theorem dX0_takePace_60 : decode cX0_takePace 60 = .ok (.bipush 57, 2) := by decide +kernel
theorem dX0_takePace_62 : decode cX0_takePace 62 = .ok (.invokevirtual 39, 3) := by decide +kernel
theorem dX0_takePace_65 : decode cX0_takePace 65 = .ok (.ireturn, 1) := by decide +kernel
theorem dX0_takePace_66 : decode cX0_takePace 66 = .ok (.aload_n 0, 1) := by decide +kernel
theorem dX0_takePace_67 : decode cX0_takePace 67 = .ok (.bipush 48, 2) := by decide +kernel
theorem dX0_takePace_69 : decode cX0_takePace 69 = .ok (.bipush 48, 2) := by decide +kernel
theorem dX0_takePace_71 : decode cX0_takePace 71 = .ok (.invokevirtual 39, 3) := by decide +kernel
theorem dX0_takePace_74 : decode cX0_takePace 74 = .ok (.ireturn, 1) := by decide +kernel
set_option maxRecDepth 20000 in
theorem ggX0_takePerson_X0_take : GoodIn wsX0_takePerson wsX0_take := goodIn_r _ [5, 6, 7, 8, 9, 4, 10, 11, 12, 13, 14, 15] (by decide +kernel) (by decide +kernel)
set_option maxRecDepth 20000 in
theorem gX0_takePerson_X0_take : GoodIn wsX0_takePerson (wsV RX0 39 RX0 yX0_take wsX0_take) := goodIn_app (goodIn_of _ (by decide +kernel)) ggX0_takePerson_X0_take
theorem dX0_takePerson_0 : decode cX0_takePerson 0 = .ok (.aload_n 0, 1) := by decide +kernel
theorem dX0_takePerson_1 : decode cX0_takePerson 1 = .ok (.bipush 48, 2) := by decide +kernel
theorem dX0_takePerson_3 : decode cX0_takePerson 3 = .ok (.bipush 50, 2) := by decide +kernel
theorem dX0_takePerson_5 : decode cX0_takePerson 5 = .ok (.invokevirtual 39, 3) := by decide +kernel
theorem dX0_takePerson_8 : decode cX0_takePerson 8 = .ok (.ifCond .eq 18, 3) := by decide +kernel
theorem dX0_takePerson_11 : decode cX0_takePerson 11 = .ok (.aload_n 0, 1) := by decide +kernel
theorem dX0_takePerson_12 : decode cX0_takePerson 12 = .ok (.bipush 48, 2) := by decide +kernel
theorem dX0_takePerson_14 : decode cX0_takePerson 14 = .ok (.bipush 57, 2) := by decide +kernel
theorem dX0_takePerson_16 : decode cX0_takePerson 16 = .ok (.invokevirtual 39, 3) := by decide +kernel
theorem dX0_takePerson_19 : decode cX0_takePerson 19 = .ok (.ifCond .eq 7, 3) := by decide +kernel
theorem dX0_takePerson_22 : decode cX0_takePerson 22 = .ok (.iconst 1, 1) := by decide +kernel
theorem dX0_takePerson_23 : decode cX0_takePerson 23 = .ok (.goto 4, 3) := by decide +kernel
theorem dX0_takePerson_26 : decode cX0_takePerson 26 = .ok (.iconst 0, 1) := by decide +kernel
theorem dX0_takePerson_27 : decode cX0_takePerson 27 = .ok (.ireturn, 1) := by decide +kernel
set_option maxRecDepth 20000 in
theorem ggX0_takeCommand_X0_charAt : GoodIn wsX0_takeCommand wsX0_charAt := goodIn_r _ [6, 7, 8, 17, 18, 19] (by decide +kernel) (by decide +kernel)
set_option maxRecDepth 20000 in
theorem gX0_takeCommand_X0_charAt : GoodIn wsX0_takeCommand (wsV RX0 23 RX0 yX0_charAt wsX0_charAt) := goodIn_app (goodIn_of _ (by decide +kernel)) ggX0_takeCommand_X0_charAt
set_option maxRecDepth 20000 in
theorem ggX0_takeCommand_X0_take : GoodIn wsX0_takeCommand wsX0_take := goodIn_r _ [12, 1, 2, 3, 4, 5, 6, 7, 8, 17, 18, 19] (by decide +kernel) (by decide +kernel)
set_option maxRecDepth 20000 in
theorem gX0_takeCommand_X0_take : GoodIn wsX0_takeCommand (wsV RX0 39 RX0 yX0_take wsX0_take) := goodIn_app (goodIn_of _ (by decide +kernel)) ggX0_takeCommand_X0_take
set_option maxRecDepth 20000 in
theorem ggX0_takeCommand_X0_takePerson : GoodIn wsX0_takeCommand wsX0_takePerson := goodIn_r _ [16, 9, 10, 11, 5, 12, 1, 2, 3, 4, 6, 7, 8, 17, 18, 19] (by decide +kernel) (by decide +kernel)
set_option maxRecDepth 20000 in
theorem gX0_takeCommand_X0_takePerson : GoodIn wsX0_takeCommand (wsV RX0 46 RX0 yX0_takePerson wsX0_takePerson) := goodIn_app (goodIn_of _ (by decide +kernel)) ggX0_takeCommand_X0_takePerson
theorem dX0_takeCommand_0 : decode cX0_takeCommand 0 = .ok (.aload_n 0, 1) := by decide +kernel
theorem dX0_takeCommand_1 : decode cX0_takeCommand 1 = .ok (.aload_n 0, 1) := by decide +kernel
theorem dX0_takeCommand_2 : decode cX0_takeCommand 2 = .ok (.getfield 30, 3) := by decide +kernel
theorem dX0_takeCommand_5 : decode cX0_takeCommand 5 = .ok (.invokevirtual 23, 3) := by decide +kernel
theorem dX0_takeCommand_8 : decode cX0_takeCommand 8 = .ok (.lookupswitch 198 #[(99, 52), (103, 91), (106, 146), (116, 170), (120, 115)], 52) := by decide +kernel
theorem dX0_takeCommand_60 : decode cX0_takeCommand 60 = .ok (.aload_n 0, 1) := by decide +kernel
theorem dX0_takeCommand_61 : decode cX0_takeCommand 61 = .ok (.bipush 99, 2) := by decide +kernel
theorem dX0_takeCommand_63 : decode cX0_takeCommand 63 = .ok (.bipush 99, 2) := by decide +kernel
theorem dX0_takeCommand_65 : decode cX0_takeCommand 65 = .ok (.invokevirtual 39, 3) := by decide +kernel
theorem dX0_takeCommand_68 : decode cX0_takeCommand 68 = .ok (.ifCond .eq 29, 3) := by decide +kernel
theorem dX0_takeCommand_71 : decode cX0_takeCommand 71 = .ok (.aload_n 0, 1) := by decide +kernel
theorem dX0_takeCommand_72 : decode cX0_takeCommand 72 = .ok (.bipush 48, 2) := by decide +kernel
theorem dX0_takeCommand_74 : decode cX0_takeCommand 74 = .ok (.bipush 50, 2) := by decide +kernel
theorem dX0_takeCommand_76 : decode cX0_takeCommand 76 = .ok (.invokevirtual 39, 3) := by decide +kernel
theorem dX0_takeCommand_79 : decode cX0_takeCommand 79 = .ok (.ifCond .eq 18, 3) := by decide +kernel
theorem dX0_takeCommand_82 : decode cX0_takeCommand 82 = .ok (.aload_n 0, 1) := by decide +kernel
theorem dX0_takeCommand_83 : decode cX0_takeCommand 83 = .ok (.bipush 48, 2) := by decide +kernel
theorem dX0_takeCommand_85 : decode cX0_takeCommand 85 = .ok (.bipush 50, 2) := by decide +kernel
theorem dX0_takeCommand_87 : decode cX0_takeCommand 87 = .ok (.invokevirtual 39, 3) := by decide +kernel
theorem dX0_takeCommand_90 : decode cX0_takeCommand 90 = .ok (.ifCond .eq 7, 3) := by decide +kernel
theorem dX0_takeCommand_93 : decode cX0_takeCommand 93 = .ok (.iconst 1, 1) := by decide +kernel
theorem dX0_takeCommand_94 : decode cX0_takeCommand 94 = .ok (.goto 4, 3) := by decide +kernel
theorem dX0_takeCommand_97 : decode cX0_takeCommand 97 = .ok (.iconst 0, 1) := by decide +kernel
theorem dX0_takeCommand_98 : decode cX0_takeCommand 98 = .ok (.ireturn, 1) := by decide +kernel
theorem dX0_takeCommand_99 : decode cX0_takeCommand 99 = .ok (.aload_n 0, 1) := by decide +kernel
theorem dX0_takeCommand_100 : decode cX0_takeCommand 100 = .ok (.bipush 103, 2) := by decide +kernel
theorem dX0_takeCommand_102 : decode cX0_takeCommand 102 = .ok (.bipush 103, 2) := by decide +kernel
theorem dX0_takeCommand_104 : decode cX0_takeCommand 104 = .ok (.invokevirtual 39, 3) := by decide +kernel
theorem dX0_takeCommand_107 : decode cX0_takeCommand 107 = .ok (.ifCond .eq 14, 3) := by decide +kernel
theorem dX0_takeCommand_110 : decode cX0_takeCommand 110 = .ok (.aload_n 0, 1) := by decide +kernel
theorem dX0_takeCommand_111 : decode cX0_takeCommand 111 = .ok (.invokevirtual 46, 3) := by decide +kernel
theorem dX0_takeCommand_114 : decode cX0_takeCommand 114 = .ok (.ifCond .eq 7, 3) := by decide +kernel
theorem dX0_takeCommand_117 : decode cX0_takeCommand 117 = .ok (.iconst 1, 1) := by decide +kernel
theorem dX0_takeCommand_118 : decode cX0_takeCommand 118 = .ok (.goto 4, 3) := by decide +kernel
theorem dX0_takeCommand_121 : decode cX0_takeCommand 121 = .ok (.iconst 0, 1) := by decide +kernel
theorem dX0_takeCommand_122 : decode cX0_takeCommand 122 = .ok (.ireturn, 1) := by decide +kernel
theorem dX0_takeCommand_123 : decode cX0_takeCommand 123 = .ok (.aload_n 0, 1) := by decide +kernel
theorem dX0_takeCommand_124 : decode cX0_takeCommand 124 = .ok (.bipush 120, 2) := by decide +kernel
theorem dX0_takeCommand_126 : decode cX0_takeCommand 126 = .ok (.bipush 120, 2) := by decide +kernel
theorem dX0_takeCommand_128 : decode cX0_takeCommand 128 = .ok (.invokevirtual 39, 3) := by decide +kernel
theorem dX0_takeCommand_131 : decode cX0_takeCommand 131 = .ok (.ifCond .eq 21, 3) := by decide +kernel
theorem dX0_takeCommand_134 : decode cX0_takeCommand 134 = .ok (.aload_n 0, 1) := by decide +kernel
theorem dX0_takeCommand_135 : decode cX0_takeCommand 135 = .ok (.invokevirtual 46, 3) := by decide +kernel
theorem dX0_takeCommand_138 : decode cX0_takeCommand 138 = .ok (.ifCond .eq 14, 3) := by decide +kernel
theorem dX0_takeCommand_141 : decode cX0_takeCommand 141 = .ok (.aload_n 0, 1) := by decide +kernel
theorem dX0_takeCommand_142 : decode cX0_takeCommand 142 = .ok (.invokevirtual 46, 3) := by decide +kernel
theorem dX0_takeCommand_145 : decode cX0_takeCommand 145 = .ok (.ifCond .eq 7, 3) := by decide +kernel
theorem dX0_takeCommand_148 : decode cX0_takeCommand 148 = .ok (.iconst 1, 1) := by decide +kernel
theorem dX0_takeCommand_149 : decode cX0_takeCommand 149 = .ok (.goto 4, 3) := by decide +kernel
theorem dX0_takeCommand_152 : decode cX0_takeCommand 152 = .ok (.iconst 0, 1) := by decide +kernel
theorem dX0_takeCommand_153 : decode cX0_takeCommand 153 = .ok (.ireturn, 1) := by decide +kernel
theorem dX0_takeCommand_154 : decode cX0_takeCommand 154 = .ok (.aload_n 0, 1) := by decide +kernel
theorem dX0_takeCommand_155 : decode cX0_takeCommand 155 = .ok (.bipush 106, 2) := by decide +kernel
theorem dX0_takeCommand_157 : decode cX0_takeCommand 157 = .ok (.bipush 106, 2) := by decide +kernel
theorem dX0_takeCommand_159 : decode cX0_takeCommand 159 = .ok (.invokevirtual 39, 3) := by decide +kernel
theorem dX0_takeCommand_162 : decode cX0_takeCommand 162 = .ok (.ifCond .eq 14, 3) := by decide +kernel
theorem dX0_takeCommand_165 : decode cX0_takeCommand 165 = .ok (.aload_n 0, 1) := by decide +kernel
theorem dX0_takeCommand_166 : decode cX0_takeCommand 166 = .ok (.invokevirtual 46, 3) := by decide +kernel
theorem dX0_takeCommand_169 : decode cX0_takeCommand 169 = .ok (.ifCond .eq 7, 3) := by decide +kernel
theorem dX0_takeCommand_172 : decode cX0_takeCommand 172 = .ok (.iconst 1, 1) := by decide +kernel
theorem dX0_takeCommand_173 : decode cX0_takeCommand 173 = .ok (.goto 4, 3) := by decide +kernel
theorem dX0_takeCommand_176 : decode cX0_takeCommand 176 = .ok (.iconst 0, 1) := by decide +kernel
theorem dX0_takeCommand_177 : decode cX0_takeCommand 177 = .ok (.ireturn, 1) := by decide +kernel
theorem dX0_takeCommand_178 : decode cX0_takeCommand 178 = .ok (.aload_n 0, 1) := by decide +kernel
theorem dX0_takeCommand_179 : decode cX0_takeCommand 179 = .ok (.bipush 116, 2) := by decide +kernel
theorem dX0_takeCommand_181 : decode cX0_takeCommand 181 = .ok (.bipush 116, 2) := by decide +kernel
theorem dX0_takeCommand_183 : decode cX0_takeCommand 183 = .ok (.invokevirtual 39, 3) := by decide +kernel
theorem dX0_takeCommand_186 : decode cX0_takeCommand 186 = .ok (.ifCond .eq 18, 3) := by decide +kernel
theorem dX0_takeCommand_189 : decode cX0_takeCommand 189 = .ok (.aload_n 0, 1) := by decide +kernel
theorem dX0_takeCommand_190 : decode cX0_takeCommand 190 = .ok (.bipush 49, 2) := by decide +kernel
theorem dX0_takeCommand_192 : decode cX0_takeCommand 192 = .ok (.bipush 57, 2) := by decide +kernel
theorem dX0_takeCommand_194 : decode cX0_takeCommand 194 = .ok (.invokevirtual 39, 3) := by decide +kernel
theorem dX0_takeCommand_197 : decode cX0_takeCommand 197 = .ok (.ifCond .eq 7, 3) := by decide +kernel
theorem dX0_takeCommand_200 : decode cX0_takeCommand 200 = .ok (.iconst 1, 1) := by decide +kernel
theorem dX0_takeCommand_201 : decode cX0_takeCommand 201 = .ok (.goto 4, 3) := by decide +kernel
theorem dX0_takeCommand_204 : decode cX0_takeCommand 204 = .ok (.iconst 0, 1) := by decide +kernel
theorem dX0_takeCommand_205 : decode cX0_takeCommand 205 = .ok (.ireturn, 1) := by decide +kernel
theorem dX0_takeCommand_206 : decode cX0_takeCommand 206 = .ok (.iconst 0, 1) := by decide +kernel
theorem dX0_takeCommand_207 : decode cX0_takeCommand 207 = .ok (.ireturn, 1) := by decide +kernel
set_option maxRecDepth 20000 in
theorem ggX0_happenIn_X0_digitAt : GoodIn wsX0_happenIn wsX0_digitAt := goodIn_r _ [6, 7, 8, 9, 5, 10, 1, 11, 195, 196, 197] (by decide +kernel) (by decide +kernel)
set_option maxRecDepth 20000 in
theorem gX0_happenIn_X0_digitAt : GoodIn wsX0_happenIn (wsV RX0 27 RX0 yX0_digitAt wsX0_digitAt) := goodIn_app (goodIn_of _ (by decide +kernel)) ggX0_happenIn_X0_digitAt
set_option maxRecDepth 20000 in
theorem ggX0_happenIn_X0_numberAt : GoodIn wsX0_happenIn wsX0_numberAt := goodIn_r _ [15, 2, 3, 4, 5, 6, 7, 8, 9, 10, 1, 11, 195, 196, 197] (by decide +kernel) (by decide +kernel)
set_option maxRecDepth 20000 in
theorem gX0_happenIn_X0_numberAt : GoodIn wsX0_happenIn (wsV RX0 49 RX0 yX0_numberAt wsX0_numberAt) := goodIn_app (goodIn_of _ (by decide +kernel)) ggX0_happenIn_X0_numberAt
set_option maxRecDepth 20000 in
theorem ggX0_happenIn_X1_addLine : GoodIn wsX0_happenIn wsX1_addLine := goodIn_r _ [20, 21, 22, 23, 24, 19, 25, 26, 27, 28, 29, 30, 31, 32, 33, 34, 35, 36, 37, 38, 39, 40, 198, 199, 200, 201, 202, 203, 204, 205, 206, 207, 208, 209, 210, 211, 212, 213] (by decide +kernel) (by decide +kernel)
set_option maxRecDepth 20000 in
theorem gX0_happenIn_X1_addLine : GoodIn wsX0_happenIn (wsV RX0 52 RX1 yX1_addLine wsX1_addLine) := goodIn_app (goodIn_of _ (by decide +kernel)) ggX0_happenIn_X1_addLine
set_option maxRecDepth 20000 in
theorem ggX0_happenIn_X0_isCommand : GoodIn wsX0_happenIn wsX0_isCommand := goodIn_r _ [44, 7, 8, 9, 5, 10, 1, 11, 195, 196, 197] (by decide +kernel) (by decide +kernel)
set_option maxRecDepth 20000 in
theorem gX0_happenIn_X0_isCommand : GoodIn wsX0_happenIn (wsV RX0 57 RX0 yX0_isCommand wsX0_isCommand) := goodIn_app (goodIn_of _ (by decide +kernel)) ggX0_happenIn_X0_isCommand
set_option maxRecDepth 20000 in
theorem ggX0_happenIn_X0_doCommand : GoodIn wsX0_happenIn wsX0_doCommand := goodIn_r _ [48, 7, 8, 9, 5, 10, 1, 11, 2, 3, 4, 6, 49, 50, 51, 19, 52, 53, 54, 55, 56, 57, 58, 59, 60, 61, 62, 63, 21, 64, 65, 66, 26, 27, 28, 29, 30, 31, 67, 68, 69, 70, 71, 72, 73, 74, 75, 76, 77, 78, 79, 80, 81, 82, 83, 84, 85, 86, 87, 88, 89, 35, 90, 40, 91, 12, 13, 14, 15, 92, 93, 94, 95, 96, 97, 98, 99, 100, 101, 102, 103, 104, 105, 106, 107, 108, 109, 110, 111, 112, 113, 114, 115, 116, 117, 118, 119, 120, 121, 122, 123, 124, 125, 126, 127, 128, 129, 130, 131, 132, 133, 134, 135, 136, 137, 138, 139, 140, 141, 142, 143, 144, 145, 146, 147, 148, 149, 150, 151, 152, 153, 154, 155, 156, 157, 158, 159, 160, 161, 162, 163, 164, 165, 166, 167, 168, 169, 170, 171, 172, 173, 174, 175, 176, 177, 178, 179, 180, 181, 182, 183, 184, 185, 186, 187, 188, 189, 190, 191, 192, 193, 194, 195, 196, 197, 198, 199, 200, 201, 202, 203, 204, 205, 206, 207, 208, 209, 210, 211, 212, 213, 214, 215, 216, 217, 218, 219, 220, 221, 222] (by decide +kernel) (by decide +kernel)
set_option maxRecDepth 20000 in
theorem gX0_happenIn_X0_doCommand : GoodIn wsX0_happenIn (wsV RX0 61 RX0 yX0_doCommand wsX0_doCommand) := goodIn_app (goodIn_of _ (by decide +kernel)) ggX0_happenIn_X0_doCommand
theorem dX0_happenIn_0 : decode cX0_happenIn 0 = .ok (.aload_n 0, 1) := by decide +kernel
theorem dX0_happenIn_1 : decode cX0_happenIn 1 = .ok (.iconst 1, 1) := by decide +kernel
theorem dX0_happenIn_2 : decode cX0_happenIn 2 = .ok (.invokevirtual 27, 3) := by decide +kernel
theorem dX0_happenIn_5 : decode cX0_happenIn 5 = .ok (.istore_n 2, 1) := by decide +kernel
theorem dX0_happenIn_6 : decode cX0_happenIn 6 = .ok (.iconst 0, 1) := by decide +kernel
theorem dX0_happenIn_7 : decode cX0_happenIn 7 = .ok (.istore_n 3, 1) := by decide +kernel
theorem dX0_happenIn_8 : decode cX0_happenIn 8 = .ok (.iload_n 3, 1) := by decide +kernel
theorem dX0_happenIn_9 : decode cX0_happenIn 9 = .ok (.iload_n 2, 1) := by decide +kernel
theorem dX0_happenIn_10 : decode cX0_happenIn 10 = .ok (.if_icmp .ge 23, 3) := by decide +kernel
theorem dX0_happenIn_13 : decode cX0_happenIn 13 = .ok (.aload_n 1, 1) := by decide +kernel
theorem dX0_happenIn_14 : decode cX0_happenIn 14 = .ok (.aload_n 0, 1) := by decide +kernel
theorem dX0_happenIn_15 : decode cX0_happenIn 15 = .ok (.iconst 2, 1) := by decide +kernel
theorem dX0_happenIn_16 : decode cX0_happenIn 16 = .ok (.iconst 2, 1) := by decide +kernel
theorem dX0_happenIn_17 : decode cX0_happenIn 17 = .ok (.iload_n 3, 1) := by decide +kernel
theorem dX0_happenIn_18 : decode cX0_happenIn 18 = .ok (.imul, 1) := by decide +kernel
theorem dX0_happenIn_19 : decode cX0_happenIn 19 = .ok (.iadd, 1) := by decide +kernel
theorem dX0_happenIn_20 : decode cX0_happenIn 20 = .ok (.invokevirtual 49, 3) := by decide +kernel
theorem dX0_happenIn_23 : decode cX0_happenIn 23 = .ok (.invokevirtual 52, 3) := by decide +kernel
theorem dX0_happenIn_26 : decode cX0_happenIn 26 = .ok (.pop, 1) := by decide +kernel
theorem dX0_happenIn_27 : decode cX0_happenIn 27 = .ok (.iinc 3 1, 3) := by decide +kernel
theorem dX0_happenIn_30 : decode cX0_happenIn 30 = .ok (.goto (-22), 3) := by decide +kernel
theorem dX0_happenIn_33 : decode cX0_happenIn 33 = .ok (.iconst 0, 1) := by decide +kernel
theorem dX0_happenIn_34 : decode cX0_happenIn 34 = .ok (.istore_n 3, 1) := by decide +kernel
theorem dX0_happenIn_35 : decode cX0_happenIn 35 = .ok (.iconst 2, 1) := by decide +kernel
theorem dX0_happenIn_36 : decode cX0_happenIn 36 = .ok (.iconst 2, 1) := by decide +kernel
theorem dX0_happenIn_37 : decode cX0_happenIn 37 = .ok (.iload_n 2, 1) := by decide +kernel
theorem dX0_happenIn_38 : decode cX0_happenIn 38 = .ok (.imul, 1) := by decide +kernel
theorem dX0_happenIn_39 : decode cX0_happenIn 39 = .ok (.iadd, 1) := by decide +kernel
theorem dX0_happenIn_40 : decode cX0_happenIn 40 = .ok (.istore 4, 2) := by decide +kernel
theorem dX0_happenIn_42 : decode cX0_happenIn 42 = .ok (.iload 4, 2) := by decide +kernel
theorem dX0_happenIn_44 : decode cX0_happenIn 44 = .ok (.aload_n 0, 1) := by decide +kernel
theorem dX0_happenIn_45 : decode cX0_happenIn 45 = .ok (.getfield 15, 3) := by decide +kernel
theorem dX0_happenIn_48 : decode cX0_happenIn 48 = .ok (.if_icmp .ge 32, 3) := by decide +kernel
theorem dX0_happenIn_51 : decode cX0_happenIn 51 = .ok (.aload_n 0, 1) := by decide +kernel
theorem dX0_happenIn_52 : decode cX0_happenIn 52 = .ok (.iload 4, 2) := by decide +kernel
theorem dX0_happenIn_54 : decode cX0_happenIn 54 = .ok (.invokevirtual 57, 3) := by decide +kernel
theorem dX0_happenIn_57 : decode cX0_happenIn 57 = .ok (.ifCond .eq 17, 3) := by decide +kernel
theorem dX0_happenIn_60 : decode cX0_happenIn 60 = .ok (.aload_n 0, 1) := by decide +kernel
theorem dX0_happenIn_61 : decode cX0_happenIn 61 = .ok (.aload_n 1, 1) := by decide +kernel
theorem dX0_happenIn_62 : decode cX0_happenIn 62 = .ok (.iload 4, 2) := by decide +kernel
theorem dX0_happenIn_64 : decode cX0_happenIn 64 = .ok (.invokevirtual 61, 3) := by decide +kernel
theorem dX0_happenIn_67 : decode cX0_happenIn 67 = .ok (.iconst (-1), 1) := by decide +kernel
theorem dX0_happenIn_68 : decode cX0_happenIn 68 = .ok (.if_icmp .ne 6, 3) := by decide +kernel
theorem dX0_happenIn_71 : decode cX0_happenIn 71 = .ok (.iinc 3 1, 3) := by decide +kernel
theorem dX0_happenIn_74 : decode cX0_happenIn 74 = .ok (.iinc 4 1, 3) := by decide +kernel
theorem dX0_happenIn_77 : decode cX0_happenIn 77 = .ok (.goto (-35), 3) := by decide +kernel
theorem dX0_happenIn_80 : decode cX0_happenIn 80 = .ok (.iload_n 3, 1) := by decide +kernel
theorem dX0_happenIn_81 : decode cX0_happenIn 81 = .ok (.ireturn, 1) := by decide +kernel
set_option maxRecDepth 20000 in
theorem ggX0_isCommand_X0_charAt : GoodIn wsX0_isCommand wsX0_charAt := goodIn_r _ [5, 6, 7, 8, 9, 10] (by decide +kernel) (by decide +kernel)
set_option maxRecDepth 20000 in
theorem gX0_isCommand_X0_charAt : GoodIn wsX0_isCommand (wsV RX0 23 RX0 yX0_charAt wsX0_charAt) := goodIn_app (goodIn_of _ (by decide +kernel)) ggX0_isCommand_X0_charAt
theorem dX0_isCommand_0 : decode cX0_isCommand 0 = .ok (.aload_n 0, 1) := by decide +kernel
theorem dX0_isCommand_1 : decode cX0_isCommand 1 = .ok (.iload_n 1, 1) := by decide +kernel
theorem dX0_isCommand_2 : decode cX0_isCommand 2 = .ok (.invokevirtual 23, 3) := by decide +kernel
theorem dX0_isCommand_5 : decode cX0_isCommand 5 = .ok (.bipush 57, 2) := by decide +kernel
theorem dX0_isCommand_7 : decode cX0_isCommand 7 = .ok (.if_icmp .le 7, 3) := by decide +kernel
theorem dX0_isCommand_10 : decode cX0_isCommand 10 = .ok (.iconst 1, 1) := by decide +kernel
theorem dX0_isCommand_11 : decode cX0_isCommand 11 = .ok (.goto 4, 3) := by decide +kernel
theorem dX0_isCommand_14 : decode cX0_isCommand 14 = .ok (.iconst 0, 1) := by decide +kernel
theorem dX0_isCommand_15 : decode cX0_isCommand 15 = .ok (.ireturn, 1) := by decide +kernel
set_option maxRecDepth 20000 in
theorem ggX0_doCommand_X0_charAt : GoodIn wsX0_doCommand wsX0_charAt := goodIn_r _ [5, 6, 7, 172, 173, 174] (by decide +kernel) (by decide +kernel)
set_option maxRecDepth 20000 in
theorem gX0_doCommand_X0_charAt : GoodIn wsX0_doCommand (wsV RX0 23 RX0 yX0_charAt wsX0_charAt) := goodIn_app (goodIn_of _ (by decide +kernel)) ggX0_doCommand_X0_charAt
set_option maxRecDepth 20000 in
theorem ggX0_doCommand_X0_digitAt : GoodIn wsX0_doCommand wsX0_digitAt := goodIn_r _ [11, 1, 2, 3, 4, 5, 6, 7, 172, 173, 174] (by decide +kernel) (by decide +kernel)
set_option maxRecDepth 20000 in
theorem gX0_doCommand_X0_digitAt : GoodIn wsX0_doCommand (wsV RX0 27 RX0 yX0_digitAt wsX0_digitAt) := goodIn_app (goodIn_of _ (by decide +kernel)) ggX0_doCommand_X0_digitAt
set_option maxRecDepth 20000 in
theorem ggX0_doCommand_X1_enter : GoodIn wsX0_doCommand wsX1_enter := goodIn_r _ [16, 17, 18, 19, 20, 21, 15, 22, 23, 24, 25, 26, 27, 28, 29, 30, 31, 32, 33, 34, 35, 36, 37, 38, 39, 40, 41, 42, 43, 44, 45, 46, 47, 48, 49, 50, 51, 52, 53, 54, 55, 56, 57, 58, 59, 60, 61, 62, 63, 64, 175, 176, 177, 178, 179, 180, 181, 182, 183, 184, 185, 186, 187, 188, 189, 190, 191, 192, 193, 194, 195, 196, 197, 198, 199] (by decide +kernel) (by decide +kernel)
set_option maxRecDepth 20000 in
theorem gX0_doCommand_X1_enter : GoodIn wsX0_doCommand (wsV RX0 65 RX1 yX1_enter wsX1_enter) := goodIn_app (goodIn_of _ (by decide +kernel)) ggX0_doCommand_X1_enter
set_option maxRecDepth 20000 in
theorem ggX0_doCommand_X0_numberAt : GoodIn wsX0_doCommand wsX0_numberAt := goodIn_r _ [68, 8, 9, 10, 4, 11, 1, 2, 3, 5, 6, 7, 172, 173, 174] (by decide +kernel) (by decide +kernel)
set_option maxRecDepth 20000 in
theorem gX0_doCommand_X0_numberAt : GoodIn wsX0_doCommand (wsV RX0 49 RX0 yX0_numberAt wsX0_numberAt) := goodIn_app (goodIn_of _ (by decide +kernel)) ggX0_doCommand_X0_numberAt
set_option maxRecDepth 20000 in
theorem ggX0_doCommand_X1_leave : GoodIn wsX0_doCommand wsX1_leave := goodIn_r _ [72, 73, 74, 75, 76, 77, 15, 78, 79, 80, 81, 82, 83, 17, 38, 39, 40, 41, 42, 43, 32, 33, 34, 35, 36, 37, 84, 85, 86, 87, 88, 89, 90, 61, 91, 63, 64, 92, 93, 94, 95, 96, 97, 98, 99, 100, 101, 102, 47, 103, 50, 51, 191, 192, 193, 194, 195, 196, 197, 198, 199, 175, 176, 177, 178, 179, 180, 181, 182, 183, 184, 185, 186, 187, 188, 189, 190] (by decide +kernel) (by decide +kernel)
set_option maxRecDepth 20000 in
theorem gX0_doCommand_X1_leave : GoodIn wsX0_doCommand (wsV RX0 69 RX1 yX1_leave wsX1_leave) := goodIn_app (goodIn_of _ (by decide +kernel)) ggX0_doCommand_X1_leave
set_option maxRecDepth 20000 in
theorem ggX0_doCommand_X1_trade : GoodIn wsX0_doCommand wsX1_trade := goodIn_r _ [107, 73, 108, 109, 110, 111, 112, 113, 15, 114, 74, 75, 76, 77, 78, 79, 80, 81, 82, 83, 17, 38, 39, 40, 41, 42, 43, 84, 85, 86, 87, 32, 33, 34, 35, 36, 37, 88, 89, 90, 61, 91, 63, 64, 115, 116, 117, 118, 119, 120, 121, 122, 123, 96, 97, 98, 99, 191, 192, 193, 194, 195, 196, 197, 198, 199, 175, 176, 177, 178, 179, 180, 181, 182, 183, 184, 185, 186, 187, 188, 189, 190] (by decide +kernel) (by decide +kernel)
set_option maxRecDepth 20000 in
theorem gX0_doCommand_X1_trade : GoodIn wsX0_doCommand (wsV RX0 72 RX1 yX1_trade wsX1_trade) := goodIn_app (goodIn_of _ (by decide +kernel)) ggX0_doCommand_X1_trade
set_option maxRecDepth 20000 in
theorem ggX0_doCommand_X1_pass : GoodIn wsX0_doCommand wsX1_pass := goodIn_r _ [127, 73, 119, 128, 129, 130, 131, 109, 18, 132, 133, 134, 135, 136, 15, 137, 138, 75, 76, 77, 78, 79, 80, 81, 82, 83, 17, 38, 39, 40, 41, 42, 43, 84, 85, 86, 87, 32, 33, 34, 35, 36, 37, 88, 89, 90, 61, 91, 63, 64, 139, 140, 141, 142, 96, 97, 98, 99, 143, 144, 145, 146, 108, 147, 148, 149, 150, 151, 152, 120, 121, 122, 123, 191, 192, 193, 194, 195, 196, 197, 198, 199, 175, 176, 177, 178, 179, 180, 181, 182, 183, 184, 185, 186, 187, 188, 189, 190] (by decide +kernel) (by decide +kernel)
set_option maxRecDepth 20000 in
theorem gX0_doCommand_X1_pass : GoodIn wsX0_doCommand (wsV RX0 75 RX1 yX1_pass wsX1_pass) := goodIn_app (goodIn_of _ (by decide +kernel)) ggX0_doCommand_X1_pass
set_option maxRecDepth 20000 in
theorem ggX0_doCommand_X1_letPass : GoodIn wsX0_doCommand wsX1_letPass := goodIn_r _ [156, 18, 28, 157, 158, 159, 15, 160, 17, 74, 75, 76, 77, 78, 79, 80, 81, 82, 83, 38, 39, 40, 41, 42, 43, 32, 33, 34, 35, 36, 37, 161, 162, 163, 164, 23, 165, 166, 167, 139, 140, 141, 61, 142, 64, 96, 97, 98, 99, 63, 100, 101, 102, 47, 103, 50, 51, 92, 93, 94, 95, 168, 169, 170, 171, 119, 147, 148, 149, 150, 108, 151, 152, 175, 176, 177, 178, 179, 180, 181, 182, 183, 184, 185, 191, 192, 193, 194, 195, 196, 197, 198, 199, 186, 187, 188, 189, 190] (by decide +kernel) (by decide +kernel)
set_option maxRecDepth 20000 in
theorem gX0_doCommand_X1_letPass : GoodIn wsX0_doCommand (wsV RX0 78 RX1 yX1_letPass wsX1_letPass) := goodIn_app (goodIn_of _ (by decide +kernel)) ggX0_doCommand_X1_letPass
theorem dX0_doCommand_0 : decode cX0_doCommand 0 = .ok (.aload_n 0, 1) := by decide +kernel
theorem dX0_doCommand_1 : decode cX0_doCommand 1 = .ok (.iload_n 2, 1) := by decide +kernel
theorem dX0_doCommand_2 : decode cX0_doCommand 2 = .ok (.invokevirtual 23, 3) := by decide +kernel
theorem dX0_doCommand_5 : decode cX0_doCommand 5 = .ok (.lookupswitch 125 #[(99, 51), (103, 70), (106, 101), (116, 113), (120, 82)], 51) := by decide +kernel
theorem dX0_doCommand_56 : decode cX0_doCommand 56 = .ok (.aload_n 1, 1) := by decide +kernel
theorem dX0_doCommand_57 : decode cX0_doCommand 57 = .ok (.aload_n 0, 1) := by decide +kernel
theorem dX0_doCommand_58 : decode cX0_doCommand 58 = .ok (.iload_n 2, 1) := by decide +kernel
theorem dX0_doCommand_59 : decode cX0_doCommand 59 = .ok (.iconst 2, 1) := by decide +kernel
theorem dX0_doCommand_60 : decode cX0_doCommand 60 = .ok (.iadd, 1) := by decide +kernel
theorem dX0_doCommand_61 : decode cX0_doCommand 61 = .ok (.invokevirtual 27, 3) := by decide +kernel
theorem dX0_doCommand_64 : decode cX0_doCommand 64 = .ok (.aload_n 0, 1) := by decide +kernel
theorem dX0_doCommand_65 : decode cX0_doCommand 65 = .ok (.iload_n 2, 1) := by decide +kernel
theorem dX0_doCommand_66 : decode cX0_doCommand 66 = .ok (.iconst 1, 1) := by decide +kernel
theorem dX0_doCommand_67 : decode cX0_doCommand 67 = .ok (.iadd, 1) := by decide +kernel
theorem dX0_doCommand_68 : decode cX0_doCommand 68 = .ok (.invokevirtual 27, 3) := by decide +kernel
theorem dX0_doCommand_71 : decode cX0_doCommand 71 = .ok (.invokevirtual 65, 3) := by decide +kernel
theorem dX0_doCommand_74 : decode cX0_doCommand 74 = .ok (.ireturn, 1) := by decide +kernel
theorem dX0_doCommand_75 : decode cX0_doCommand 75 = .ok (.aload_n 1, 1) := by decide +kernel
theorem dX0_doCommand_76 : decode cX0_doCommand 76 = .ok (.aload_n 0, 1) := by decide +kernel
theorem dX0_doCommand_77 : decode cX0_doCommand 77 = .ok (.iload_n 2, 1) := by decide +kernel
theorem dX0_doCommand_78 : decode cX0_doCommand 78 = .ok (.iconst 1, 1) := by decide +kernel
theorem dX0_doCommand_79 : decode cX0_doCommand 79 = .ok (.iadd, 1) := by decide +kernel
theorem dX0_doCommand_80 : decode cX0_doCommand 80 = .ok (.invokevirtual 49, 3) := by decide +kernel
theorem dX0_doCommand_83 : decode cX0_doCommand 83 = .ok (.invokevirtual 69, 3) := by decide +kernel
theorem dX0_doCommand_86 : decode cX0_doCommand 86 = .ok (.ireturn, 1) := by decide +kernel
theorem dX0_doCommand_87 : decode cX0_doCommand 87 = .ok (.aload_n 1, 1) := by decide +kernel
theorem dX0_doCommand_88 : decode cX0_doCommand 88 = .ok (.aload_n 0, 1) := by decide +kernel
theorem dX0_doCommand_89 : decode cX0_doCommand 89 = .ok (.iload_n 2, 1) := by decide +kernel
theorem dX0_doCommand_90 : decode cX0_doCommand 90 = .ok (.iconst 1, 1) := by decide +kernel
theorem dX0_doCommand_91 : decode cX0_doCommand 91 = .ok (.iadd, 1) := by decide +kernel
theorem dX0_doCommand_92 : decode cX0_doCommand 92 = .ok (.invokevirtual 49, 3) := by decide +kernel
theorem dX0_doCommand_95 : decode cX0_doCommand 95 = .ok (.aload_n 0, 1) := by decide +kernel
theorem dX0_doCommand_96 : decode cX0_doCommand 96 = .ok (.iload_n 2, 1) := by decide +kernel
theorem dX0_doCommand_97 : decode cX0_doCommand 97 = .ok (.iconst 3, 1) := by decide +kernel
theorem dX0_doCommand_98 : decode cX0_doCommand 98 = .ok (.iadd, 1) := by decide +kernel
theorem dX0_doCommand_99 : decode cX0_doCommand 99 = .ok (.invokevirtual 49, 3) := by decide +kernel
theorem dX0_doCommand_102 : decode cX0_doCommand 102 = .ok (.invokevirtual 72, 3) := by decide +kernel
theorem dX0_doCommand_105 : decode cX0_doCommand 105 = .ok (.ireturn, 1) := by decide +kernel
theorem dX0_doCommand_106 : decode cX0_doCommand 106 = .ok (.aload_n 1, 1) := by decide +kernel
theorem dX0_doCommand_107 : decode cX0_doCommand 107 = .ok (.aload_n 0, 1) := by decide +kernel
theorem dX0_doCommand_108 : decode cX0_doCommand 108 = .ok (.iload_n 2, 1) := by decide +kernel
theorem dX0_doCommand_109 : decode cX0_doCommand 109 = .ok (.iconst 1, 1) := by decide +kernel
theorem dX0_doCommand_110 : decode cX0_doCommand 110 = .ok (.iadd, 1) := by decide +kernel
theorem dX0_doCommand_111 : decode cX0_doCommand 111 = .ok (.invokevirtual 49, 3) := by decide +kernel
theorem dX0_doCommand_114 : decode cX0_doCommand 114 = .ok (.invokevirtual 75, 3) := by decide +kernel
theorem dX0_doCommand_117 : decode cX0_doCommand 117 = .ok (.ireturn, 1) := by decide +kernel
theorem dX0_doCommand_118 : decode cX0_doCommand 118 = .ok (.aload_n 1, 1) := by decide +kernel
theorem dX0_doCommand_119 : decode cX0_doCommand 119 = .ok (.aload_n 0, 1) := by decide +kernel
theorem dX0_doCommand_120 : decode cX0_doCommand 120 = .ok (.iload_n 2, 1) := by decide +kernel
theorem dX0_doCommand_121 : decode cX0_doCommand 121 = .ok (.iconst 1, 1) := by decide +kernel
theorem dX0_doCommand_122 : decode cX0_doCommand 122 = .ok (.iadd, 1) := by decide +kernel
theorem dX0_doCommand_123 : decode cX0_doCommand 123 = .ok (.invokevirtual 27, 3) := by decide +kernel
theorem dX0_doCommand_126 : decode cX0_doCommand 126 = .ok (.invokevirtual 78, 3) := by decide +kernel
theorem dX0_doCommand_129 : decode cX0_doCommand 129 = .ok (.ireturn, 1) := by decide +kernel
theorem dX0_doCommand_130 : decode cX0_doCommand 130 = .ok (.iconst (-1), 1) := by decide +kernel
theorem dX0_doCommand_131 : decode cX0_doCommand 131 = .ok (.ireturn, 1) := by decide +kernel
set_option maxRecDepth 20000 in
theorem ggX1_init_X3_init : GoodIn wsX1_init wsX3_init := goodIn_r _ [17, 18, 2, 3, 4, 19, 36, 37, 38, 39, 40] (by decide +kernel) (by decide +kernel)
set_option maxRecDepth 20000 in
theorem gX1_init_X3_init_n27 : GoodIn wsX1_init (wsX3_init) := ggX1_init_X3_init
set_option maxRecDepth 20000 in
theorem ggX1_init_X4_init : GoodIn wsX1_init wsX4_init := goodIn_r _ [21, 22, 2, 3, 23, 24, 41, 42, 43, 44, 45, 46, 47, 48, 49] (by decide +kernel) (by decide +kernel)
set_option maxRecDepth 20000 in
theorem gX1_init_X4_init_n32 : GoodIn wsX1_init (wsX4_init) := ggX1_init_X4_init
theorem dX1_init_0 : decode cX1_init 0 = .ok (.aload_n 0, 1) := by decide +kernel
theorem dX1_init_1 : decode cX1_init 1 = .ok (.invokespecial 3, 3) := by decide +kernel
theorem dX1_init_4 : decode cX1_init 4 = .ok (.aload_n 0, 1) := by decide +kernel
theorem dX1_init_5 : decode cX1_init 5 = .ok (.iconst 4, 1) := by decide +kernel
theorem dX1_init_6 : decode cX1_init 6 = .ok (.newarray .int, 2) := by decide +kernel
theorem dX1_init_8 : decode cX1_init 8 = .ok (.putfield 9, 3) := by decide +kernel
theorem dX1_init_11 : decode cX1_init 11 = .ok (.aload_n 0, 1) := by decide +kernel
theorem dX1_init_12 : decode cX1_init 12 = .ok (.iconst 3, 1) := by decide +kernel
theorem dX1_init_13 : decode cX1_init 13 = .ok (.anewarray 15, 3) := by decide +kernel
theorem dX1_init_16 : decode cX1_init 16 = .ok (.putfield 17, 3) := by decide +kernel
theorem dX1_init_19 : decode cX1_init 19 = .ok (.aload_n 0, 1) := by decide +kernel
theorem dX1_init_20 : decode cX1_init 20 = .ok (.bipush 30, 2) := by decide +kernel
theorem dX1_init_22 : decode cX1_init 22 = .ok (.anewarray 21, 3) := by decide +kernel
theorem dX1_init_25 : decode cX1_init 25 = .ok (.putfield 23, 3) := by decide +kernel
theorem dX1_init_28 : decode cX1_init 28 = .ok (.aload_n 0, 1) := by decide +kernel
theorem dX1_init_29 : decode cX1_init 29 = .ok (.new 15, 3) := by decide +kernel
theorem dX1_init_32 : decode cX1_init 32 = .ok (.dup, 1) := by decide +kernel
theorem dX1_init_33 : decode cX1_init 33 = .ok (.invokespecial 27, 3) := by decide +kernel
theorem dX1_init_36 : decode cX1_init 36 = .ok (.putfield 28, 3) := by decide +kernel
theorem dX1_init_39 : decode cX1_init 39 = .ok (.aload_n 0, 1) := by decide +kernel
theorem dX1_init_40 : decode cX1_init 40 = .ok (.new 21, 3) := by decide +kernel
theorem dX1_init_43 : decode cX1_init 43 = .ok (.dup, 1) := by decide +kernel
theorem dX1_init_44 : decode cX1_init 44 = .ok (.invokespecial 32, 3) := by decide +kernel
theorem dX1_init_47 : decode cX1_init 47 = .ok (.putfield 33, 3) := by decide +kernel
theorem dX1_init_50 : decode cX1_init 50 = .ok (.iconst 0, 1) := by decide +kernel
theorem dX1_init_51 : decode cX1_init 51 = .ok (.istore_n 1, 1) := by decide +kernel
theorem dX1_init_52 : decode cX1_init 52 = .ok (.iload_n 1, 1) := by decide +kernel
theorem dX1_init_53 : decode cX1_init 53 = .ok (.aload_n 0, 1) := by decide +kernel
theorem dX1_init_54 : decode cX1_init 54 = .ok (.getfield 17, 3) := by decide +kernel
theorem dX1_init_57 : decode cX1_init 57 = .ok (.arraylength, 1) := by decide +kernel
theorem dX1_init_58 : decode cX1_init 58 = .ok (.if_icmp .ge 22, 3) := by decide +kernel
theorem dX1_init_61 : decode cX1_init 61 = .ok (.aload_n 0, 1) := by decide +kernel
theorem dX1_init_62 : decode cX1_init 62 = .ok (.getfield 17, 3) := by decide +kernel
theorem dX1_init_65 : decode cX1_init 65 = .ok (.iload_n 1, 1) := by decide +kernel
theorem dX1_init_66 : decode cX1_init 66 = .ok (.new 15, 3) := by decide +kernel
theorem dX1_init_69 : decode cX1_init 69 = .ok (.dup, 1) := by decide +kernel
theorem dX1_init_70 : decode cX1_init 70 = .ok (.invokespecial 27, 3) := by decide +kernel
theorem dX1_init_73 : decode cX1_init 73 = .ok (.aastore, 1) := by decide +kernel
theorem dX1_init_74 : decode cX1_init 74 = .ok (.iinc 1 1, 3) := by decide +kernel
theorem dX1_init_77 : decode cX1_init 77 = .ok (.goto (-25), 3) := by decide +kernel
theorem dX1_init_80 : decode cX1_init 80 = .ok (.iconst 0, 1) := by decide +kernel
theorem dX1_init_81 : decode cX1_init 81 = .ok (.istore_n 1, 1) := by decide +kernel
theorem dX1_init_82 : decode cX1_init 82 = .ok (.iload_n 1, 1) := by decide +kernel
theorem dX1_init_83 : decode cX1_init 83 = .ok (.aload_n 0, 1) := by decide +kernel
theorem dX1_init_84 : decode cX1_init 84 = .ok (.getfield 23, 3) := by decide +kernel
theorem dX1_init_87 : decode cX1_init 87 = .ok (.arraylength, 1) := by decide +kernel
theorem dX1_init_88 : decode cX1_init 88 = .ok (.if_icmp .ge 22, 3) := by decide +kernel
theorem dX1_init_91 : decode cX1_init 91 = .ok (.aload_n 0, 1) := by decide +kernel
theorem dX1_init_92 : decode cX1_init 92 = .ok (.getfield 23, 3) := by decide +kernel
theorem dX1_init_95 : decode cX1_init 95 = .ok (.iload_n 1, 1) := by decide +kernel
theorem dX1_init_96 : decode cX1_init 96 = .ok (.new 21, 3) := by decide +kernel
theorem dX1_init_99 : decode cX1_init 99 = .ok (.dup, 1) := by decide +kernel
theorem dX1_init_100 : decode cX1_init 100 = .ok (.invokespecial 32, 3) := by decide +kernel
theorem dX1_init_103 : decode cX1_init 103 = .ok (.aastore, 1) := by decide +kernel
theorem dX1_init_104 : decode cX1_init 104 = .ok (.iinc 1 1, 3) := by decide +kernel
theorem dX1_init_107 : decode cX1_init 107 = .ok (.goto (-25), 3) := by decide +kernel
theorem dX1_init_110 : decode cX1_init 110 = .ok (.return_, 1) := by decide +kernel
theorem dX1_beginAnew_0 : decode cX1_beginAnew 0 = .ok (.aload_n 0, 1) := by decide +kernel
theorem dX1_beginAnew_1 : decode cX1_beginAnew 1 = .ok (.iconst 0, 1) := by decide +kernel
theorem dX1_beginAnew_2 : decode cX1_beginAnew 2 = .ok (.putfield 37, 3) := by decide +kernel
theorem dX1_beginAnew_5 : decode cX1_beginAnew 5 = .ok (.aload_n 0, 1) := by decide +kernel
theorem dX1_beginAnew_6 : decode cX1_beginAnew 6 = .ok (.iconst 0, 1) := by decide +kernel
theorem dX1_beginAnew_7 : decode cX1_beginAnew 7 = .ok (.putfield 41, 3) := by decide +kernel
theorem dX1_beginAnew_10 : decode cX1_beginAnew 10 = .ok (.aload_n 0, 1) := by decide +kernel
theorem dX1_beginAnew_11 : decode cX1_beginAnew 11 = .ok (.iconst 0, 1) := by decide +kernel
theorem dX1_beginAnew_12 : decode cX1_beginAnew 12 = .ok (.putfield 44, 3) := by decide +kernel
theorem dX1_beginAnew_15 : decode cX1_beginAnew 15 = .ok (.aload_n 0, 1) := by decide +kernel
theorem dX1_beginAnew_16 : decode cX1_beginAnew 16 = .ok (.iconst 0, 1) := by decide +kernel
theorem dX1_beginAnew_17 : decode cX1_beginAnew 17 = .ok (.putfield 47, 3) := by decide +kernel
theorem dX1_beginAnew_20 : decode cX1_beginAnew 20 = .ok (.aload_n 0, 1) := by decide +kernel
theorem dX1_beginAnew_21 : decode cX1_beginAnew 21 = .ok (.iconst 0, 1) := by decide +kernel
theorem dX1_beginAnew_22 : decode cX1_beginAnew 22 = .ok (.putfield 50, 3) := by decide +kernel
theorem dX1_beginAnew_25 : decode cX1_beginAnew 25 = .ok (.aload_n 0, 1) := by decide +kernel
theorem dX1_beginAnew_26 : decode cX1_beginAnew 26 = .ok (.iconst 0, 1) := by decide +kernel
theorem dX1_beginAnew_27 : decode cX1_beginAnew 27 = .ok (.putfield 53, 3) := by decide +kernel
theorem dX1_beginAnew_30 : decode cX1_beginAnew 30 = .ok (.getstatic 56, 3) := by decide +kernel
theorem dX1_beginAnew_33 : decode cX1_beginAnew 33 = .ok (.iconst 0, 1) := by decide +kernel
theorem dX1_beginAnew_34 : decode cX1_beginAnew 34 = .ok (.aload_n 0, 1) := by decide +kernel
theorem dX1_beginAnew_35 : decode cX1_beginAnew 35 = .ok (.getfield 9, 3) := by decide +kernel
theorem dX1_beginAnew_38 : decode cX1_beginAnew 38 = .ok (.iconst 0, 1) := by decide +kernel
theorem dX1_beginAnew_39 : decode cX1_beginAnew 39 = .ok (.aload_n 0, 1) := by decide +kernel
theorem dX1_beginAnew_40 : decode cX1_beginAnew 40 = .ok (.getfield 9, 3) := by decide +kernel
theorem dX1_beginAnew_43 : decode cX1_beginAnew 43 = .ok (.arraylength, 1) := by decide +kernel
theorem dX1_beginAnew_44 : decode cX1_beginAnew 44 = .ok (.invokestatic 59, 3) := by decide +kernel
theorem dX1_beginAnew_47 : decode cX1_beginAnew 47 = .ok (.return_, 1) := by decide +kernel
set_option maxRecDepth 20000 in
theorem ggX1_copyFrom_X1_lineOf : GoodIn wsX1_copyFrom wsX1_lineOf := goodIn_r _ [18, 12, 19, 50, 51, 52, 53, 54, 55, 56, 57, 58, 59, 60] (by decide +kernel) (by decide +kernel)
set_option maxRecDepth 20000 in
theorem gX1_copyFrom_X1_lineOf : GoodIn wsX1_copyFrom (wsV RX1 65 RX1 yX1_lineOf wsX1_lineOf) := goodIn_app (goodIn_of _ (by decide +kernel)) ggX1_copyFrom_X1_lineOf
set_option maxRecDepth 20000 in
theorem ggX1_copyFrom_X3_copyFrom : GoodIn wsX1_copyFrom wsX3_copyFrom := goodIn_r _ [24, 25, 26, 27, 28, 29, 30, 9, 10, 11, 61, 62, 63, 64, 65] (by decide +kernel) (by decide +kernel)
set_option maxRecDepth 20000 in
theorem gX1_copyFrom_X3_copyFrom : GoodIn wsX1_copyFrom (wsV RX1 69 RX3 yX3_copyFrom wsX3_copyFrom) := goodIn_app (goodIn_of _ (by decide +kernel)) ggX1_copyFrom_X3_copyFrom
set_option maxRecDepth 20000 in
theorem ggX1_copyFrom_X1_personOf : GoodIn wsX1_copyFrom wsX1_personOf := goodIn_r _ [34, 13, 35, 50, 51, 52, 53, 54, 55, 56, 57, 58, 59, 60] (by decide +kernel) (by decide +kernel)
set_option maxRecDepth 20000 in
theorem gX1_copyFrom_X1_personOf : GoodIn wsX1_copyFrom (wsV RX1 73 RX1 yX1_personOf wsX1_personOf) := goodIn_app (goodIn_of _ (by decide +kernel)) ggX1_copyFrom_X1_personOf
set_option maxRecDepth 20000 in
theorem ggX1_copyFrom_X4_copyFrom : GoodIn wsX1_copyFrom wsX4_copyFrom := goodIn_r _ [40, 41, 42, 43, 44, 45, 46, 47, 48, 49, 66, 67, 68, 69, 70, 71, 72, 73, 74] (by decide +kernel) (by decide +kernel)
set_option maxRecDepth 20000 in
theorem gX1_copyFrom_X4_copyFrom : GoodIn wsX1_copyFrom (wsV RX1 77 RX4 yX4_copyFrom wsX4_copyFrom) := goodIn_app (goodIn_of _ (by decide +kernel)) ggX1_copyFrom_X4_copyFrom
theorem dX1_copyFrom_0 : decode cX1_copyFrom 0 = .ok (.aload_n 0, 1) := by decide +kernel
theorem dX1_copyFrom_1 : decode cX1_copyFrom 1 = .ok (.aload_n 1, 1) := by decide +kernel
theorem dX1_copyFrom_2 : decode cX1_copyFrom 2 = .ok (.getfield 37, 3) := by decide +kernel
theorem dX1_copyFrom_5 : decode cX1_copyFrom 5 = .ok (.putfield 37, 3) := by decide +kernel
theorem dX1_copyFrom_8 : decode cX1_copyFrom 8 = .ok (.aload_n 0, 1) := by decide +kernel
theorem dX1_copyFrom_9 : decode cX1_copyFrom 9 = .ok (.aload_n 1, 1) := by decide +kernel
theorem dX1_copyFrom_10 : decode cX1_copyFrom 10 = .ok (.getfield 41, 3) := by decide +kernel
theorem dX1_copyFrom_13 : decode cX1_copyFrom 13 = .ok (.putfield 41, 3) := by decide +kernel
theorem dX1_copyFrom_16 : decode cX1_copyFrom 16 = .ok (.aload_n 0, 1) := by decide +kernel
theorem dX1_copyFrom_17 : decode cX1_copyFrom 17 = .ok (.aload_n 1, 1) := by decide +kernel
theorem dX1_copyFrom_18 : decode cX1_copyFrom 18 = .ok (.getfield 44, 3) := by decide +kernel
theorem dX1_copyFrom_21 : decode cX1_copyFrom 21 = .ok (.putfield 44, 3) := by decide +kernel
theorem dX1_copyFrom_24 : decode cX1_copyFrom 24 = .ok (.aload_n 0, 1) := by decide +kernel
theorem dX1_copyFrom_25 : decode cX1_copyFrom 25 = .ok (.aload_n 1, 1) := by decide +kernel
theorem dX1_copyFrom_26 : decode cX1_copyFrom 26 = .ok (.getfield 47, 3) := by decide +kernel
theorem dX1_copyFrom_29 : decode cX1_copyFrom 29 = .ok (.putfield 47, 3) := by decide +kernel
theorem dX1_copyFrom_32 : decode cX1_copyFrom 32 = .ok (.aload_n 0, 1) := by decide +kernel
theorem dX1_copyFrom_33 : decode cX1_copyFrom 33 = .ok (.aload_n 1, 1) := by decide +kernel
theorem dX1_copyFrom_34 : decode cX1_copyFrom 34 = .ok (.getfield 50, 3) := by decide +kernel
theorem dX1_copyFrom_37 : decode cX1_copyFrom 37 = .ok (.putfield 50, 3) := by decide +kernel
theorem dX1_copyFrom_40 : decode cX1_copyFrom 40 = .ok (.aload_n 0, 1) := by decide +kernel
theorem dX1_copyFrom_41 : decode cX1_copyFrom 41 = .ok (.aload_n 1, 1) := by decide +kernel
theorem dX1_copyFrom_42 : decode cX1_copyFrom 42 = .ok (.getfield 53, 3) := by decide +kernel
theorem dX1_copyFrom_45 : decode cX1_copyFrom 45 = .ok (.putfield 53, 3) := by decide +kernel
theorem dX1_copyFrom_48 : decode cX1_copyFrom 48 = .ok (.aload_n 1, 1) := by decide +kernel
theorem dX1_copyFrom_49 : decode cX1_copyFrom 49 = .ok (.getfield 9, 3) := by decide +kernel
theorem dX1_copyFrom_52 : decode cX1_copyFrom 52 = .ok (.iconst 0, 1) := by decide +kernel
theorem dX1_copyFrom_53 : decode cX1_copyFrom 53 = .ok (.aload_n 0, 1) := by decide +kernel
theorem dX1_copyFrom_54 : decode cX1_copyFrom 54 = .ok (.getfield 9, 3) := by decide +kernel
theorem dX1_copyFrom_57 : decode cX1_copyFrom 57 = .ok (.iconst 0, 1) := by decide +kernel
theorem dX1_copyFrom_58 : decode cX1_copyFrom 58 = .ok (.aload_n 0, 1) := by decide +kernel
theorem dX1_copyFrom_59 : decode cX1_copyFrom 59 = .ok (.getfield 9, 3) := by decide +kernel
theorem dX1_copyFrom_62 : decode cX1_copyFrom 62 = .ok (.arraylength, 1) := by decide +kernel
theorem dX1_copyFrom_63 : decode cX1_copyFrom 63 = .ok (.invokestatic 59, 3) := by decide +kernel
theorem dX1_copyFrom_66 : decode cX1_copyFrom 66 = .ok (.iconst 0, 1) := by decide +kernel
theorem dX1_copyFrom_67 : decode cX1_copyFrom 67 = .ok (.istore_n 2, 1) := by decide +kernel
theorem dX1_copyFrom_68 : decode cX1_copyFrom 68 = .ok (.iload_n 2, 1) := by decide +kernel
theorem dX1_copyFrom_69 : decode cX1_copyFrom 69 = .ok (.aload_n 0, 1) := by decide +kernel
theorem dX1_copyFrom_70 : decode cX1_copyFrom 70 = .ok (.getfield 17, 3) := by decide +kernel
theorem dX1_copyFrom_73 : decode cX1_copyFrom 73 = .ok (.arraylength, 1) := by decide +kernel
theorem dX1_copyFrom_74 : decode cX1_copyFrom 74 = .ok (.if_icmp .ge 23, 3) := by decide +kernel
theorem dX1_copyFrom_77 : decode cX1_copyFrom 77 = .ok (.aload_n 0, 1) := by decide +kernel
theorem dX1_copyFrom_78 : decode cX1_copyFrom 78 = .ok (.getfield 17, 3) := by decide +kernel
theorem dX1_copyFrom_81 : decode cX1_copyFrom 81 = .ok (.iload_n 2, 1) := by decide +kernel
theorem dX1_copyFrom_82 : decode cX1_copyFrom 82 = .ok (.aaload, 1) := by decide +kernel
theorem dX1_copyFrom_83 : decode cX1_copyFrom 83 = .ok (.aload_n 1, 1) := by decide +kernel
theorem dX1_copyFrom_84 : decode cX1_copyFrom 84 = .ok (.iload_n 2, 1) := by decide +kernel
theorem dX1_copyFrom_85 : decode cX1_copyFrom 85 = .ok (.invokevirtual 65, 3) := by decide +kernel
theorem dX1_copyFrom_88 : decode cX1_copyFrom 88 = .ok (.invokevirtual 69, 3) := by decide +kernel
theorem dX1_copyFrom_91 : decode cX1_copyFrom 91 = .ok (.iinc 2 1, 3) := by decide +kernel
theorem dX1_copyFrom_94 : decode cX1_copyFrom 94 = .ok (.goto (-26), 3) := by decide +kernel
theorem dX1_copyFrom_97 : decode cX1_copyFrom 97 = .ok (.iconst 0, 1) := by decide +kernel
theorem dX1_copyFrom_98 : decode cX1_copyFrom 98 = .ok (.istore_n 2, 1) := by decide +kernel
theorem dX1_copyFrom_99 : decode cX1_copyFrom 99 = .ok (.iload_n 2, 1) := by decide +kernel
theorem dX1_copyFrom_100 : decode cX1_copyFrom 100 = .ok (.aload_n 0, 1) := by decide +kernel
theorem dX1_copyFrom_101 : decode cX1_copyFrom 101 = .ok (.getfield 23, 3) := by decide +kernel
theorem dX1_copyFrom_104 : decode cX1_copyFrom 104 = .ok (.arraylength, 1) := by decide +kernel
theorem dX1_copyFrom_105 : decode cX1_copyFrom 105 = .ok (.if_icmp .ge 23, 3) := by decide +kernel
theorem dX1_copyFrom_108 : decode cX1_copyFrom 108 = .ok (.aload_n 0, 1) := by decide +kernel
theorem dX1_copyFrom_109 : decode cX1_copyFrom 109 = .ok (.getfield 23, 3) := by decide +kernel
theorem dX1_copyFrom_112 : decode cX1_copyFrom 112 = .ok (.iload_n 2, 1) := by decide +kernel
theorem dX1_copyFrom_113 : decode cX1_copyFrom 113 = .ok (.aaload, 1) := by decide +kernel
theorem dX1_copyFrom_114 : decode cX1_copyFrom 114 = .ok (.aload_n 1, 1) := by decide +kernel
theorem dX1_copyFrom_115 : decode cX1_copyFrom 115 = .ok (.iload_n 2, 1) := by decide +kernel
theorem dX1_copyFrom_116 : decode cX1_copyFrom 116 = .ok (.invokevirtual 73, 3) := by decide +kernel
theorem dX1_copyFrom_119 : decode cX1_copyFrom 119 = .ok (.invokevirtual 77, 3) := by decide +kernel
theorem dX1_copyFrom_122 : decode cX1_copyFrom 122 = .ok (.iinc 2 1, 3) := by decide +kernel
theorem dX1_copyFrom_125 : decode cX1_copyFrom 125 = .ok (.goto (-26), 3) := by decide +kernel
theorem dX1_copyFrom_128 : decode cX1_copyFrom 128 = .ok (.return_, 1) := by decide +kernel
theorem dX1_isLine_0 : decode cX1_isLine 0 = .ok (.iload_n 1, 1) := by decide +kernel
theorem dX1_isLine_1 : decode cX1_isLine 1 = .ok (.ifCond .lt 15, 3) := by decide +kernel
theorem dX1_isLine_4 : decode cX1_isLine 4 = .ok (.iload_n 1, 1) := by decide +kernel
theorem dX1_isLine_5 : decode cX1_isLine 5 = .ok (.aload_n 0, 1) := by decide +kernel
theorem dX1_isLine_6 : decode cX1_isLine 6 = .ok (.getfield 37, 3) := by decide +kernel
theorem dX1_isLine_9 : decode cX1_isLine 9 = .ok (.if_icmp .ge 7, 3) := by decide +kernel
theorem dX1_isLine_12 : decode cX1_isLine 12 = .ok (.iconst 1, 1) := by decide +kernel
theorem dX1_isLine_13 : decode cX1_isLine 13 = .ok (.goto 4, 3) := by decide +kernel
theorem dX1_isLine_16 : decode cX1_isLine 16 = .ok (.iconst 0, 1) := by decide +kernel
theorem dX1_isLine_17 : decode cX1_isLine 17 = .ok (.ireturn, 1) := by decide +kernel
theorem dX1_isPerson_0 : decode cX1_isPerson 0 = .ok (.iload_n 1, 1) := by decide +kernel
theorem dX1_isPerson_1 : decode cX1_isPerson 1 = .ok (.ifCond .lt 15, 3) := by decide +kernel
theorem dX1_isPerson_4 : decode cX1_isPerson 4 = .ok (.iload_n 1, 1) := by decide +kernel
theorem dX1_isPerson_5 : decode cX1_isPerson 5 = .ok (.aload_n 0, 1) := by decide +kernel
theorem dX1_isPerson_6 : decode cX1_isPerson 6 = .ok (.getfield 41, 3) := by decide +kernel
theorem dX1_isPerson_9 : decode cX1_isPerson 9 = .ok (.if_icmp .ge 7, 3) := by decide +kernel
theorem dX1_isPerson_12 : decode cX1_isPerson 12 = .ok (.iconst 1, 1) := by decide +kernel
theorem dX1_isPerson_13 : decode cX1_isPerson 13 = .ok (.goto 4, 3) := by decide +kernel
theorem dX1_isPerson_16 : decode cX1_isPerson 16 = .ok (.iconst 0, 1) := by decide +kernel
theorem dX1_isPerson_17 : decode cX1_isPerson 17 = .ok (.ireturn, 1) := by decide +kernel
set_option maxRecDepth 20000 in
theorem ggX1_stands_X1_isPerson : GoodIn wsX1_stands wsX1_isPerson := goodIn_r _ [6, 7, 23, 24, 25, 26, 27, 28, 29, 30, 31, 32, 33] (by decide +kernel) (by decide +kernel)
set_option maxRecDepth 20000 in
theorem gX1_stands_X1_isPerson : GoodIn wsX1_stands (wsV RX1 80 RX1 yX1_isPerson wsX1_isPerson) := goodIn_app (goodIn_of _ (by decide +kernel)) ggX1_stands_X1_isPerson
set_option maxRecDepth 20000 in
theorem ggX1_stands_X1_personOf : GoodIn wsX1_stands wsX1_personOf := goodIn_r _ [11, 12, 13, 23, 24, 25, 26, 27, 28, 29, 30, 31, 32, 33] (by decide +kernel) (by decide +kernel)
set_option maxRecDepth 20000 in
theorem gX1_stands_X1_personOf : GoodIn wsX1_stands (wsV RX1 73 RX1 yX1_personOf wsX1_personOf) := goodIn_app (goodIn_of _ (by decide +kernel)) ggX1_stands_X1_personOf
theorem dX1_stands_0 : decode cX1_stands 0 = .ok (.aload_n 0, 1) := by decide +kernel
theorem dX1_stands_1 : decode cX1_stands 1 = .ok (.iload_n 1, 1) := by decide +kernel
theorem dX1_stands_2 : decode cX1_stands 2 = .ok (.invokevirtual 80, 3) := by decide +kernel
theorem dX1_stands_5 : decode cX1_stands 5 = .ok (.ifCond .eq 18, 3) := by decide +kernel
theorem dX1_stands_8 : decode cX1_stands 8 = .ok (.aload_n 0, 1) := by decide +kernel
theorem dX1_stands_9 : decode cX1_stands 9 = .ok (.iload_n 1, 1) := by decide +kernel
theorem dX1_stands_10 : decode cX1_stands 10 = .ok (.invokevirtual 73, 3) := by decide +kernel
theorem dX1_stands_13 : decode cX1_stands 13 = .ok (.getfield 84, 3) := by decide +kernel
theorem dX1_stands_16 : decode cX1_stands 16 = .ok (.ifCond .ne 7, 3) := by decide +kernel
theorem dX1_stands_19 : decode cX1_stands 19 = .ok (.iconst 1, 1) := by decide +kernel
theorem dX1_stands_20 : decode cX1_stands 20 = .ok (.goto 4, 3) := by decide +kernel
theorem dX1_stands_23 : decode cX1_stands 23 = .ok (.iconst 0, 1) := by decide +kernel
theorem dX1_stands_24 : decode cX1_stands 24 = .ok (.ireturn, 1) := by decide +kernel
theorem dX1_hasAllLines_0 : decode cX1_hasAllLines 0 = .ok (.aload_n 0, 1) := by decide +kernel
theorem dX1_hasAllLines_1 : decode cX1_hasAllLines 1 = .ok (.getfield 37, 3) := by decide +kernel
theorem dX1_hasAllLines_4 : decode cX1_hasAllLines 4 = .ok (.iconst 3, 1) := by decide +kernel
theorem dX1_hasAllLines_5 : decode cX1_hasAllLines 5 = .ok (.if_icmp .lt 7, 3) := by decide +kernel
theorem dX1_hasAllLines_8 : decode cX1_hasAllLines 8 = .ok (.iconst 1, 1) := by decide +kernel
theorem dX1_hasAllLines_9 : decode cX1_hasAllLines 9 = .ok (.goto 4, 3) := by decide +kernel
theorem dX1_hasAllLines_12 : decode cX1_hasAllLines 12 = .ok (.iconst 0, 1) := by decide +kernel
theorem dX1_hasAllLines_13 : decode cX1_hasAllLines 13 = .ok (.ireturn, 1) := by decide +kernel
theorem dX1_lineOf_0 : decode cX1_lineOf 0 = .ok (.iload_n 1, 1) := by decide +kernel
theorem dX1_lineOf_1 : decode cX1_lineOf 1 = .ok (.ifCond .lt 21, 3) := by decide +kernel
theorem dX1_lineOf_4 : decode cX1_lineOf 4 = .ok (.iload_n 1, 1) := by decide +kernel
theorem dX1_lineOf_5 : decode cX1_lineOf 5 = .ok (.aload_n 0, 1) := by decide +kernel
theorem dX1_lineOf_6 : decode cX1_lineOf 6 = .ok (.getfield 17, 3) := by decide +kernel
theorem dX1_lineOf_9 : decode cX1_lineOf 9 = .ok (.arraylength, 1) := by decide +kernel
theorem dX1_lineOf_10 : decode cX1_lineOf 10 = .ok (.if_icmp .ge 12, 3) := by decide +kernel
theorem dX1_lineOf_13 : decode cX1_lineOf 13 = .ok (.aload_n 0, 1) := by decide +kernel
theorem dX1_lineOf_14 : decode cX1_lineOf 14 = .ok (.getfield 17, 3) := by decide +kernel
theorem dX1_lineOf_17 : decode cX1_lineOf 17 = .ok (.iload_n 1, 1) := by decide +kernel
theorem dX1_lineOf_18 : decode cX1_lineOf 18 = .ok (.aaload, 1) := by decide +kernel
theorem dX1_lineOf_19 : decode cX1_lineOf 19 = .ok (.goto 7, 3) := by decide +kernel
theorem dX1_lineOf_22 : decode cX1_lineOf 22 = .ok (.aload_n 0, 1) := by decide +kernel
theorem dX1_lineOf_23 : decode cX1_lineOf 23 = .ok (.getfield 28, 3) := by decide +kernel
theorem dX1_lineOf_26 : decode cX1_lineOf 26 = .ok (.areturn, 1) := by decide +kernel
theorem dX1_personOf_0 : decode cX1_personOf 0 = .ok (.iload_n 1, 1) := by decide +kernel
theorem dX1_personOf_1 : decode cX1_personOf 1 = .ok (.ifCond .lt 21, 3) := by decide +kernel
theorem dX1_personOf_4 : decode cX1_personOf 4 = .ok (.iload_n 1, 1) := by decide +kernel
theorem dX1_personOf_5 : decode cX1_personOf 5 = .ok (.aload_n 0, 1) := by decide +kernel
theorem dX1_personOf_6 : decode cX1_personOf 6 = .ok (.getfield 23, 3) := by decide +kernel
theorem dX1_personOf_9 : decode cX1_personOf 9 = .ok (.arraylength, 1) := by decide +kernel
theorem dX1_personOf_10 : decode cX1_personOf 10 = .ok (.if_icmp .ge 12, 3) := by decide +kernel
theorem dX1_personOf_13 : decode cX1_personOf 13 = .ok (.aload_n 0, 1) := by decide +kernel
theorem dX1_personOf_14 : decode cX1_personOf 14 = .ok (.getfield 23, 3) := by decide +kernel
theorem dX1_personOf_17 : decode cX1_personOf 17 = .ok (.iload_n 1, 1) := by decide +kernel
theorem dX1_personOf_18 : decode cX1_personOf 18 = .ok (.aaload, 1) := by decide +kernel
theorem dX1_personOf_19 : decode cX1_personOf 19 = .ok (.goto 7, 3) := by decide +kernel
theorem dX1_personOf_22 : decode cX1_personOf 22 = .ok (.aload_n 0, 1) := by decide +kernel
theorem dX1_personOf_23 : decode cX1_personOf 23 = .ok (.getfield 33, 3) := by decide +kernel
theorem dX1_personOf_26 : decode cX1_personOf 26 = .ok (.areturn, 1) := by decide +kernel
set_option maxRecDepth 20000 in
theorem ggX1_placeOf_X1_personOf : GoodIn wsX1_placeOf wsX1_personOf := goodIn_r _ [6, 7, 8, 31, 32, 33, 34, 35, 36, 37, 38, 39, 40, 41] (by decide +kernel) (by decide +kernel)
set_option maxRecDepth 20000 in
theorem gX1_placeOf_X1_personOf : GoodIn wsX1_placeOf (wsV RX1 73 RX1 yX1_personOf wsX1_personOf) := goodIn_app (goodIn_of _ (by decide +kernel)) ggX1_placeOf_X1_personOf
set_option maxRecDepth 20000 in
theorem ggX1_placeOf_X1_lineOf : GoodIn wsX1_placeOf wsX1_lineOf := goodIn_r _ [12, 13, 14, 31, 32, 33, 34, 35, 36, 37, 38, 39, 40, 41] (by decide +kernel) (by decide +kernel)
set_option maxRecDepth 20000 in
theorem gX1_placeOf_X1_lineOf : GoodIn wsX1_placeOf (wsV RX1 65 RX1 yX1_lineOf wsX1_lineOf) := goodIn_app (goodIn_of _ (by decide +kernel)) ggX1_placeOf_X1_lineOf
set_option maxRecDepth 20000 in
theorem ggX1_placeOf_X3_placeOf : GoodIn wsX1_placeOf wsX3_placeOf := goodIn_r _ [19, 20, 21, 42, 43, 44, 45, 46] (by decide +kernel) (by decide +kernel)
set_option maxRecDepth 20000 in
theorem gX1_placeOf_X3_placeOf : GoodIn wsX1_placeOf (wsV RX1 89 RX3 yX3_placeOf wsX3_placeOf) := goodIn_app (goodIn_of _ (by decide +kernel)) ggX1_placeOf_X3_placeOf
theorem dX1_placeOf_0 : decode cX1_placeOf 0 = .ok (.aload_n 0, 1) := by decide +kernel
theorem dX1_placeOf_1 : decode cX1_placeOf 1 = .ok (.aload_n 0, 1) := by decide +kernel
theorem dX1_placeOf_2 : decode cX1_placeOf 2 = .ok (.iload_n 1, 1) := by decide +kernel
theorem dX1_placeOf_3 : decode cX1_placeOf 3 = .ok (.invokevirtual 73, 3) := by decide +kernel
theorem dX1_placeOf_6 : decode cX1_placeOf 6 = .ok (.getfield 87, 3) := by decide +kernel
theorem dX1_placeOf_9 : decode cX1_placeOf 9 = .ok (.invokevirtual 65, 3) := by decide +kernel
theorem dX1_placeOf_12 : decode cX1_placeOf 12 = .ok (.iload_n 1, 1) := by decide +kernel
theorem dX1_placeOf_13 : decode cX1_placeOf 13 = .ok (.invokevirtual 89, 3) := by decide +kernel
theorem dX1_placeOf_16 : decode cX1_placeOf 16 = .ok (.ireturn, 1) := by decide +kernel
theorem dX1_settingOf_0 : decode cX1_settingOf 0 = .ok (.iload_n 1, 1) := by decide +kernel
theorem dX1_settingOf_1 : decode cX1_settingOf 1 = .ok (.ifCond .lt 21, 3) := by decide +kernel
theorem dX1_settingOf_4 : decode cX1_settingOf 4 = .ok (.iload_n 1, 1) := by decide +kernel
theorem dX1_settingOf_5 : decode cX1_settingOf 5 = .ok (.aload_n 0, 1) := by decide +kernel
theorem dX1_settingOf_6 : decode cX1_settingOf 6 = .ok (.getfield 9, 3) := by decide +kernel
theorem dX1_settingOf_9 : decode cX1_settingOf 9 = .ok (.arraylength, 1) := by decide +kernel
theorem dX1_settingOf_10 : decode cX1_settingOf 10 = .ok (.if_icmp .ge 12, 3) := by decide +kernel
theorem dX1_settingOf_13 : decode cX1_settingOf 13 = .ok (.aload_n 0, 1) := by decide +kernel
theorem dX1_settingOf_14 : decode cX1_settingOf 14 = .ok (.getfield 9, 3) := by decide +kernel
theorem dX1_settingOf_17 : decode cX1_settingOf 17 = .ok (.iload_n 1, 1) := by decide +kernel
theorem dX1_settingOf_18 : decode cX1_settingOf 18 = .ok (.iaload, 1) := by decide +kernel
theorem dX1_settingOf_19 : decode cX1_settingOf 19 = .ok (.goto 4, 3) := by decide +kernel
theorem dX1_settingOf_22 : decode cX1_settingOf 22 = .ok (.iconst (-1), 1) := by decide +kernel
theorem dX1_settingOf_23 : decode cX1_settingOf 23 = .ok (.ireturn, 1) := by decide +kernel
set_option maxRecDepth 20000 in
theorem ggX1_total_X1_count : GoodIn wsX1_total wsX1_count := goodIn_r _ [11, 3, 12, 13, 14, 15, 10, 16, 17, 18, 24, 25, 26, 27, 28, 29, 30, 31, 32, 33, 34, 35, 36, 37, 38, 39, 40, 41, 42, 43] (by decide +kernel) (by decide +kernel)
set_option maxRecDepth 20000 in
theorem gX1_total_X1_count : GoodIn wsX1_total (wsV RX1 93 RX1 yX1_count wsX1_count) := goodIn_app (goodIn_of _ (by decide +kernel)) ggX1_total_X1_count
set_option maxRecDepth 20000 in
theorem ggX1_total_X1_sumOfAccounts : GoodIn wsX1_total wsX1_sumOfAccounts := goodIn_r _ [22, 3, 23, 13, 14, 15, 10, 16, 17, 18, 24, 25, 26, 27, 28, 29, 30, 31, 32, 33, 34, 35, 36, 37, 38, 39, 40, 41, 42, 43] (by decide +kernel) (by decide +kernel)
set_option maxRecDepth 20000 in
theorem gX1_total_X1_sumOfAccounts : GoodIn wsX1_total (wsV RX1 96 RX1 yX1_sumOfAccounts wsX1_sumOfAccounts) := goodIn_app (goodIn_of _ (by decide +kernel)) ggX1_total_X1_sumOfAccounts
theorem dX1_total_0 : decode cX1_total 0 = .ok (.iload_n 1, 1) := by decide +kernel
theorem dX1_total_1 : decode cX1_total 1 = .ok (.tableswitch 108 0 9 #[55, 60, 65, 70, 76, 82, 88, 93, 98, 103], 55) := by decide +kernel
theorem dX1_total_56 : decode cX1_total 56 = .ok (.aload_n 0, 1) := by decide +kernel
theorem dX1_total_57 : decode cX1_total 57 = .ok (.getfield 44, 3) := by decide +kernel
theorem dX1_total_60 : decode cX1_total 60 = .ok (.ireturn, 1) := by decide +kernel
theorem dX1_total_61 : decode cX1_total 61 = .ok (.aload_n 0, 1) := by decide +kernel
theorem dX1_total_62 : decode cX1_total 62 = .ok (.getfield 37, 3) := by decide +kernel
theorem dX1_total_65 : decode cX1_total 65 = .ok (.ireturn, 1) := by decide +kernel
theorem dX1_total_66 : decode cX1_total 66 = .ok (.aload_n 0, 1) := by decide +kernel
theorem dX1_total_67 : decode cX1_total 67 = .ok (.getfield 41, 3) := by decide +kernel
theorem dX1_total_70 : decode cX1_total 70 = .ok (.ireturn, 1) := by decide +kernel
theorem dX1_total_71 : decode cX1_total 71 = .ok (.aload_n 0, 1) := by decide +kernel
theorem dX1_total_72 : decode cX1_total 72 = .ok (.iconst 0, 1) := by decide +kernel
theorem dX1_total_73 : decode cX1_total 73 = .ok (.invokevirtual 93, 3) := by decide +kernel
theorem dX1_total_76 : decode cX1_total 76 = .ok (.ireturn, 1) := by decide +kernel
theorem dX1_total_77 : decode cX1_total 77 = .ok (.aload_n 0, 1) := by decide +kernel
theorem dX1_total_78 : decode cX1_total 78 = .ok (.iconst 1, 1) := by decide +kernel
theorem dX1_total_79 : decode cX1_total 79 = .ok (.invokevirtual 93, 3) := by decide +kernel
theorem dX1_total_82 : decode cX1_total 82 = .ok (.ireturn, 1) := by decide +kernel
theorem dX1_total_83 : decode cX1_total 83 = .ok (.aload_n 0, 1) := by decide +kernel
theorem dX1_total_84 : decode cX1_total 84 = .ok (.iconst 2, 1) := by decide +kernel
theorem dX1_total_85 : decode cX1_total 85 = .ok (.invokevirtual 93, 3) := by decide +kernel
theorem dX1_total_88 : decode cX1_total 88 = .ok (.ireturn, 1) := by decide +kernel
theorem dX1_total_89 : decode cX1_total 89 = .ok (.aload_n 0, 1) := by decide +kernel
theorem dX1_total_90 : decode cX1_total 90 = .ok (.getfield 47, 3) := by decide +kernel
theorem dX1_total_93 : decode cX1_total 93 = .ok (.ireturn, 1) := by decide +kernel
theorem dX1_total_94 : decode cX1_total 94 = .ok (.aload_n 0, 1) := by decide +kernel
theorem dX1_total_95 : decode cX1_total 95 = .ok (.getfield 50, 3) := by decide +kernel
theorem dX1_total_98 : decode cX1_total 98 = .ok (.ireturn, 1) := by decide +kernel
theorem dX1_total_99 : decode cX1_total 99 = .ok (.aload_n 0, 1) := by decide +kernel
theorem dX1_total_100 : decode cX1_total 100 = .ok (.getfield 53, 3) := by decide +kernel
theorem dX1_total_103 : decode cX1_total 103 = .ok (.ireturn, 1) := by decide +kernel
theorem dX1_total_104 : decode cX1_total 104 = .ok (.aload_n 0, 1) := by decide +kernel
theorem dX1_total_105 : decode cX1_total 105 = .ok (.invokevirtual 96, 3) := by decide +kernel
theorem dX1_total_108 : decode cX1_total 108 = .ok (.ireturn, 1) := by decide +kernel
theorem dX1_total_109 : decode cX1_total 109 = .ok (.iconst (-1), 1) := by decide +kernel
theorem dX1_total_110 : decode cX1_total 110 = .ok (.ireturn, 1) := by decide +kernel
set_option maxRecDepth 20000 in
theorem ggX1_count_X1_personOf : GoodIn wsX1_count wsX1_personOf := goodIn_r _ [7, 8, 9, 10, 11, 12, 13, 14, 15, 16, 17, 18, 19, 20] (by decide +kernel) (by decide +kernel)
set_option maxRecDepth 20000 in
theorem gX1_count_X1_personOf : GoodIn wsX1_count (wsV RX1 73 RX1 yX1_personOf wsX1_personOf) := goodIn_app (goodIn_of _ (by decide +kernel)) ggX1_count_X1_personOf
theorem dX1_count_0 : decode cX1_count 0 = .ok (.iconst 0, 1) := by decide +kernel
theorem dX1_count_1 : decode cX1_count 1 = .ok (.istore_n 2, 1) := by decide +kernel
theorem dX1_count_2 : decode cX1_count 2 = .ok (.iconst 0, 1) := by decide +kernel
theorem dX1_count_3 : decode cX1_count 3 = .ok (.istore_n 3, 1) := by decide +kernel
theorem dX1_count_4 : decode cX1_count 4 = .ok (.iload_n 3, 1) := by decide +kernel
theorem dX1_count_5 : decode cX1_count 5 = .ok (.aload_n 0, 1) := by decide +kernel
theorem dX1_count_6 : decode cX1_count 6 = .ok (.getfield 41, 3) := by decide +kernel
theorem dX1_count_9 : decode cX1_count 9 = .ok (.if_icmp .ge 24, 3) := by decide +kernel
theorem dX1_count_12 : decode cX1_count 12 = .ok (.aload_n 0, 1) := by decide +kernel
theorem dX1_count_13 : decode cX1_count 13 = .ok (.iload_n 3, 1) := by decide +kernel
theorem dX1_count_14 : decode cX1_count 14 = .ok (.invokevirtual 73, 3) := by decide +kernel
theorem dX1_count_17 : decode cX1_count 17 = .ok (.getfield 84, 3) := by decide +kernel
theorem dX1_count_20 : decode cX1_count 20 = .ok (.iload_n 1, 1) := by decide +kernel
theorem dX1_count_21 : decode cX1_count 21 = .ok (.if_icmp .ne 6, 3) := by decide +kernel
theorem dX1_count_24 : decode cX1_count 24 = .ok (.iinc 2 1, 3) := by decide +kernel
theorem dX1_count_27 : decode cX1_count 27 = .ok (.iinc 3 1, 3) := by decide +kernel
theorem dX1_count_30 : decode cX1_count 30 = .ok (.goto (-26), 3) := by decide +kernel
theorem dX1_count_33 : decode cX1_count 33 = .ok (.iload_n 2, 1) := by decide +kernel
theorem dX1_count_34 : decode cX1_count 34 = .ok (.ireturn, 1) := by decide +kernel
set_option maxRecDepth 20000 in
theorem ggX1_sumOfAccounts_X1_personOf : GoodIn wsX1_sumOfAccounts wsX1_personOf := goodIn_r _ [7, 8, 9, 10, 11, 12, 13, 14, 15, 16, 17, 18, 19, 20] (by decide +kernel) (by decide +kernel)
set_option maxRecDepth 20000 in
theorem gX1_sumOfAccounts_X1_personOf : GoodIn wsX1_sumOfAccounts (wsV RX1 73 RX1 yX1_personOf wsX1_personOf) := goodIn_app (goodIn_of _ (by decide +kernel)) ggX1_sumOfAccounts_X1_personOf
theorem dX1_sumOfAccounts_0 : decode cX1_sumOfAccounts 0 = .ok (.iconst 0, 1) := by decide +kernel
theorem dX1_sumOfAccounts_1 : decode cX1_sumOfAccounts 1 = .ok (.istore_n 1, 1) := by decide +kernel
theorem dX1_sumOfAccounts_2 : decode cX1_sumOfAccounts 2 = .ok (.iconst 0, 1) := by decide +kernel
theorem dX1_sumOfAccounts_3 : decode cX1_sumOfAccounts 3 = .ok (.istore_n 2, 1) := by decide +kernel
theorem dX1_sumOfAccounts_4 : decode cX1_sumOfAccounts 4 = .ok (.iload_n 2, 1) := by decide +kernel
theorem dX1_sumOfAccounts_5 : decode cX1_sumOfAccounts 5 = .ok (.aload_n 0, 1) := by decide +kernel
theorem dX1_sumOfAccounts_6 : decode cX1_sumOfAccounts 6 = .ok (.getfield 41, 3) := by decide +kernel
theorem dX1_sumOfAccounts_9 : decode cX1_sumOfAccounts 9 = .ok (.if_icmp .ge 20, 3) := by decide +kernel
theorem dX1_sumOfAccounts_12 : decode cX1_sumOfAccounts 12 = .ok (.iload_n 1, 1) := by decide +kernel
theorem dX1_sumOfAccounts_13 : decode cX1_sumOfAccounts 13 = .ok (.aload_n 0, 1) := by decide +kernel
theorem dX1_sumOfAccounts_14 : decode cX1_sumOfAccounts 14 = .ok (.iload_n 2, 1) := by decide +kernel
theorem dX1_sumOfAccounts_15 : decode cX1_sumOfAccounts 15 = .ok (.invokevirtual 73, 3) := by decide +kernel
theorem dX1_sumOfAccounts_18 : decode cX1_sumOfAccounts 18 = .ok (.getfield 100, 3) := by decide +kernel
theorem dX1_sumOfAccounts_21 : decode cX1_sumOfAccounts 21 = .ok (.iadd, 1) := by decide +kernel
theorem dX1_sumOfAccounts_22 : decode cX1_sumOfAccounts 22 = .ok (.istore_n 1, 1) := by decide +kernel
theorem dX1_sumOfAccounts_23 : decode cX1_sumOfAccounts 23 = .ok (.iinc 2 1, 3) := by decide +kernel
theorem dX1_sumOfAccounts_26 : decode cX1_sumOfAccounts 26 = .ok (.goto (-22), 3) := by decide +kernel
theorem dX1_sumOfAccounts_29 : decode cX1_sumOfAccounts 29 = .ok (.iload_n 1, 1) := by decide +kernel
theorem dX1_sumOfAccounts_30 : decode cX1_sumOfAccounts 30 = .ok (.ireturn, 1) := by decide +kernel
set_option maxRecDepth 20000 in
theorem ggX1_numberOfLine_X1_lineOf : GoodIn wsX1_numberOfLine wsX1_lineOf := goodIn_r _ [9, 10, 11, 39, 40, 41, 42, 43, 44, 45, 46, 47, 48, 49] (by decide +kernel) (by decide +kernel)
set_option maxRecDepth 20000 in
theorem gX1_numberOfLine_X1_lineOf : GoodIn wsX1_numberOfLine (wsV RX1 65 RX1 yX1_lineOf wsX1_lineOf) := goodIn_app (goodIn_of _ (by decide +kernel)) ggX1_numberOfLine_X1_lineOf
set_option maxRecDepth 20000 in
theorem ggX1_numberOfLine_X1_stoodTogether : GoodIn wsX1_numberOfLine wsX1_stoodTogether := goodIn_r _ [15, 2, 16, 17, 18, 19, 20, 21, 22, 23, 24, 25, 26, 27, 28, 29, 30, 8, 31, 32, 33, 34, 35, 36, 37, 38, 50, 51, 52, 53, 54, 55, 56, 57, 58, 39, 40, 41, 42, 43, 44, 45, 46, 47, 48, 49] (by decide +kernel) (by decide +kernel)
set_option maxRecDepth 20000 in
theorem gX1_numberOfLine_X1_stoodTogether : GoodIn wsX1_numberOfLine (wsV RX1 115 RX1 yX1_stoodTogether wsX1_stoodTogether) := goodIn_app (goodIn_of _ (by decide +kernel)) ggX1_numberOfLine_X1_stoodTogether
theorem dX1_numberOfLine_0 : decode cX1_numberOfLine 0 = .ok (.aload_n 0, 1) := by decide +kernel
theorem dX1_numberOfLine_1 : decode cX1_numberOfLine 1 = .ok (.iload_n 1, 1) := by decide +kernel
theorem dX1_numberOfLine_2 : decode cX1_numberOfLine 2 = .ok (.invokevirtual 65, 3) := by decide +kernel
theorem dX1_numberOfLine_5 : decode cX1_numberOfLine 5 = .ok (.astore_n 3, 1) := by decide +kernel
theorem dX1_numberOfLine_6 : decode cX1_numberOfLine 6 = .ok (.iload_n 2, 1) := by decide +kernel
theorem dX1_numberOfLine_7 : decode cX1_numberOfLine 7 = .ok (.tableswitch 59 0 4 #[33, 38, 43, 48, 53], 33) := by decide +kernel
theorem dX1_numberOfLine_40 : decode cX1_numberOfLine 40 = .ok (.aload_n 3, 1) := by decide +kernel
theorem dX1_numberOfLine_41 : decode cX1_numberOfLine 41 = .ok (.getfield 103, 3) := by decide +kernel
theorem dX1_numberOfLine_44 : decode cX1_numberOfLine 44 = .ok (.ireturn, 1) := by decide +kernel
theorem dX1_numberOfLine_45 : decode cX1_numberOfLine 45 = .ok (.aload_n 3, 1) := by decide +kernel
theorem dX1_numberOfLine_46 : decode cX1_numberOfLine 46 = .ok (.getfield 106, 3) := by decide +kernel
theorem dX1_numberOfLine_49 : decode cX1_numberOfLine 49 = .ok (.ireturn, 1) := by decide +kernel
theorem dX1_numberOfLine_50 : decode cX1_numberOfLine 50 = .ok (.aload_n 3, 1) := by decide +kernel
theorem dX1_numberOfLine_51 : decode cX1_numberOfLine 51 = .ok (.getfield 109, 3) := by decide +kernel
theorem dX1_numberOfLine_54 : decode cX1_numberOfLine 54 = .ok (.ireturn, 1) := by decide +kernel
theorem dX1_numberOfLine_55 : decode cX1_numberOfLine 55 = .ok (.aload_n 3, 1) := by decide +kernel
theorem dX1_numberOfLine_56 : decode cX1_numberOfLine 56 = .ok (.getfield 112, 3) := by decide +kernel
theorem dX1_numberOfLine_59 : decode cX1_numberOfLine 59 = .ok (.ireturn, 1) := by decide +kernel
theorem dX1_numberOfLine_60 : decode cX1_numberOfLine 60 = .ok (.aload_n 0, 1) := by decide +kernel
theorem dX1_numberOfLine_61 : decode cX1_numberOfLine 61 = .ok (.aload_n 3, 1) := by decide +kernel
theorem dX1_numberOfLine_62 : decode cX1_numberOfLine 62 = .ok (.invokevirtual 115, 3) := by decide +kernel
theorem dX1_numberOfLine_65 : decode cX1_numberOfLine 65 = .ok (.ireturn, 1) := by decide +kernel
theorem dX1_numberOfLine_66 : decode cX1_numberOfLine 66 = .ok (.iconst (-1), 1) := by decide +kernel
theorem dX1_numberOfLine_67 : decode cX1_numberOfLine 67 = .ok (.ireturn, 1) := by decide +kernel
set_option maxRecDepth 20000 in
theorem ggX1_stoodTogether_X3_who : GoodIn wsX1_stoodTogether wsX3_who := goodIn_r _ [7, 8, 9, 10, 11, 6, 12, 13, 21, 22, 23, 24, 25] (by decide +kernel) (by decide +kernel)
set_option maxRecDepth 20000 in
theorem gX1_stoodTogether_X3_who : GoodIn wsX1_stoodTogether (wsV RX1 119 RX3 yX3_who wsX3_who) := goodIn_app (goodIn_of _ (by decide +kernel)) ggX1_stoodTogether_X3_who
set_option maxRecDepth 20000 in
theorem ggX1_stoodTogether_X1_personOf : GoodIn wsX1_stoodTogether wsX1_personOf := goodIn_r _ [18, 19, 20, 35, 36, 37, 38, 39, 40, 41, 42, 43, 44, 45] (by decide +kernel) (by decide +kernel)
set_option maxRecDepth 20000 in
theorem gX1_stoodTogether_X1_personOf : GoodIn wsX1_stoodTogether (wsV RX1 73 RX1 yX1_personOf wsX1_personOf) := goodIn_app (goodIn_of _ (by decide +kernel)) ggX1_stoodTogether_X1_personOf
theorem dX1_stoodTogether_0 : decode cX1_stoodTogether 0 = .ok (.iconst 0, 1) := by decide +kernel
theorem dX1_stoodTogether_1 : decode cX1_stoodTogether 1 = .ok (.istore_n 2, 1) := by decide +kernel
theorem dX1_stoodTogether_2 : decode cX1_stoodTogether 2 = .ok (.iconst 0, 1) := by decide +kernel
theorem dX1_stoodTogether_3 : decode cX1_stoodTogether 3 = .ok (.istore_n 3, 1) := by decide +kernel
theorem dX1_stoodTogether_4 : decode cX1_stoodTogether 4 = .ok (.iload_n 3, 1) := by decide +kernel
theorem dX1_stoodTogether_5 : decode cX1_stoodTogether 5 = .ok (.aload_n 1, 1) := by decide +kernel
theorem dX1_stoodTogether_6 : decode cX1_stoodTogether 6 = .ok (.getfield 106, 3) := by decide +kernel
theorem dX1_stoodTogether_9 : decode cX1_stoodTogether 9 = .ok (.if_icmp .ge 24, 3) := by decide +kernel
theorem dX1_stoodTogether_12 : decode cX1_stoodTogether 12 = .ok (.iload_n 2, 1) := by decide +kernel
theorem dX1_stoodTogether_13 : decode cX1_stoodTogether 13 = .ok (.aload_n 0, 1) := by decide +kernel
theorem dX1_stoodTogether_14 : decode cX1_stoodTogether 14 = .ok (.aload_n 1, 1) := by decide +kernel
theorem dX1_stoodTogether_15 : decode cX1_stoodTogether 15 = .ok (.iload_n 3, 1) := by decide +kernel
theorem dX1_stoodTogether_16 : decode cX1_stoodTogether 16 = .ok (.invokevirtual 119, 3) := by decide +kernel
theorem dX1_stoodTogether_19 : decode cX1_stoodTogether 19 = .ok (.invokevirtual 73, 3) := by decide +kernel
theorem dX1_stoodTogether_22 : decode cX1_stoodTogether 22 = .ok (.getfield 122, 3) := by decide +kernel
theorem dX1_stoodTogether_25 : decode cX1_stoodTogether 25 = .ok (.iadd, 1) := by decide +kernel
theorem dX1_stoodTogether_26 : decode cX1_stoodTogether 26 = .ok (.istore_n 2, 1) := by decide +kernel
theorem dX1_stoodTogether_27 : decode cX1_stoodTogether 27 = .ok (.iinc 3 1, 3) := by decide +kernel
theorem dX1_stoodTogether_30 : decode cX1_stoodTogether 30 = .ok (.goto (-26), 3) := by decide +kernel
theorem dX1_stoodTogether_33 : decode cX1_stoodTogether 33 = .ok (.iload_n 2, 1) := by decide +kernel
theorem dX1_stoodTogether_34 : decode cX1_stoodTogether 34 = .ok (.ireturn, 1) := by decide +kernel
set_option maxRecDepth 20000 in
theorem ggX1_numberOfPerson_X1_personOf : GoodIn wsX1_numberOfPerson wsX1_personOf := goodIn_r _ [13, 14, 15, 42, 43, 44, 45, 46, 47, 48, 49, 50, 51, 52] (by decide +kernel) (by decide +kernel)
set_option maxRecDepth 20000 in
theorem gX1_numberOfPerson_X1_personOf : GoodIn wsX1_numberOfPerson (wsV RX1 73 RX1 yX1_personOf wsX1_personOf) := goodIn_app (goodIn_of _ (by decide +kernel)) ggX1_numberOfPerson_X1_personOf
set_option maxRecDepth 20000 in
theorem ggX1_numberOfPerson_X1_placeOf : GoodIn wsX1_numberOfPerson wsX1_placeOf := goodIn_r _ [19, 2, 9, 10, 11, 12, 13, 14, 15, 20, 21, 22, 23, 24, 25, 26, 27, 28, 29, 30, 31, 32, 33, 34, 35, 36, 37, 38, 39, 40, 41, 42, 43, 44, 45, 46, 47, 48, 49, 50, 51, 52, 53, 54, 55, 56, 57] (by decide +kernel) (by decide +kernel)
set_option maxRecDepth 20000 in
theorem gX1_numberOfPerson_X1_placeOf : GoodIn wsX1_numberOfPerson (wsV RX1 128 RX1 yX1_placeOf wsX1_placeOf) := goodIn_app (goodIn_of _ (by decide +kernel)) ggX1_numberOfPerson_X1_placeOf
theorem dX1_numberOfPerson_0 : decode cX1_numberOfPerson 0 = .ok (.aload_n 0, 1) := by decide +kernel
theorem dX1_numberOfPerson_1 : decode cX1_numberOfPerson 1 = .ok (.iload_n 1, 1) := by decide +kernel
theorem dX1_numberOfPerson_2 : decode cX1_numberOfPerson 2 = .ok (.invokevirtual 73, 3) := by decide +kernel
theorem dX1_numberOfPerson_5 : decode cX1_numberOfPerson 5 = .ok (.astore_n 3, 1) := by decide +kernel
theorem dX1_numberOfPerson_6 : decode cX1_numberOfPerson 6 = .ok (.iload_n 2, 1) := by decide +kernel
theorem dX1_numberOfPerson_7 : decode cX1_numberOfPerson 7 = .ok (.tableswitch 95 0 8 #[49, 54, 59, 65, 70, 75, 80, 85, 90], 49) := by decide +kernel
theorem dX1_numberOfPerson_56 : decode cX1_numberOfPerson 56 = .ok (.aload_n 3, 1) := by decide +kernel
theorem dX1_numberOfPerson_57 : decode cX1_numberOfPerson 57 = .ok (.getfield 125, 3) := by decide +kernel
theorem dX1_numberOfPerson_60 : decode cX1_numberOfPerson 60 = .ok (.ireturn, 1) := by decide +kernel
theorem dX1_numberOfPerson_61 : decode cX1_numberOfPerson 61 = .ok (.aload_n 3, 1) := by decide +kernel
theorem dX1_numberOfPerson_62 : decode cX1_numberOfPerson 62 = .ok (.getfield 87, 3) := by decide +kernel
theorem dX1_numberOfPerson_65 : decode cX1_numberOfPerson 65 = .ok (.ireturn, 1) := by decide +kernel
theorem dX1_numberOfPerson_66 : decode cX1_numberOfPerson 66 = .ok (.aload_n 0, 1) := by decide +kernel
theorem dX1_numberOfPerson_67 : decode cX1_numberOfPerson 67 = .ok (.iload_n 1, 1) := by decide +kernel
theorem dX1_numberOfPerson_68 : decode cX1_numberOfPerson 68 = .ok (.invokevirtual 128, 3) := by decide +kernel
theorem dX1_numberOfPerson_71 : decode cX1_numberOfPerson 71 = .ok (.ireturn, 1) := by decide +kernel
theorem dX1_numberOfPerson_72 : decode cX1_numberOfPerson 72 = .ok (.aload_n 3, 1) := by decide +kernel
theorem dX1_numberOfPerson_73 : decode cX1_numberOfPerson 73 = .ok (.getfield 122, 3) := by decide +kernel
theorem dX1_numberOfPerson_76 : decode cX1_numberOfPerson 76 = .ok (.ireturn, 1) := by decide +kernel
theorem dX1_numberOfPerson_77 : decode cX1_numberOfPerson 77 = .ok (.aload_n 3, 1) := by decide +kernel
theorem dX1_numberOfPerson_78 : decode cX1_numberOfPerson 78 = .ok (.getfield 100, 3) := by decide +kernel
theorem dX1_numberOfPerson_81 : decode cX1_numberOfPerson 81 = .ok (.ireturn, 1) := by decide +kernel
theorem dX1_numberOfPerson_82 : decode cX1_numberOfPerson 82 = .ok (.aload_n 3, 1) := by decide +kernel
theorem dX1_numberOfPerson_83 : decode cX1_numberOfPerson 83 = .ok (.getfield 129, 3) := by decide +kernel
theorem dX1_numberOfPerson_86 : decode cX1_numberOfPerson 86 = .ok (.ireturn, 1) := by decide +kernel
theorem dX1_numberOfPerson_87 : decode cX1_numberOfPerson 87 = .ok (.aload_n 3, 1) := by decide +kernel
theorem dX1_numberOfPerson_88 : decode cX1_numberOfPerson 88 = .ok (.getfield 84, 3) := by decide +kernel
theorem dX1_numberOfPerson_91 : decode cX1_numberOfPerson 91 = .ok (.ireturn, 1) := by decide +kernel
theorem dX1_numberOfPerson_92 : decode cX1_numberOfPerson 92 = .ok (.aload_n 3, 1) := by decide +kernel
theorem dX1_numberOfPerson_93 : decode cX1_numberOfPerson 93 = .ok (.getfield 132, 3) := by decide +kernel
theorem dX1_numberOfPerson_96 : decode cX1_numberOfPerson 96 = .ok (.ireturn, 1) := by decide +kernel
theorem dX1_numberOfPerson_97 : decode cX1_numberOfPerson 97 = .ok (.aload_n 3, 1) := by decide +kernel
theorem dX1_numberOfPerson_98 : decode cX1_numberOfPerson 98 = .ok (.getfield 135, 3) := by decide +kernel
theorem dX1_numberOfPerson_101 : decode cX1_numberOfPerson 101 = .ok (.ireturn, 1) := by decide +kernel
theorem dX1_numberOfPerson_102 : decode cX1_numberOfPerson 102 = .ok (.iconst (-1), 1) := by decide +kernel
theorem dX1_numberOfPerson_103 : decode cX1_numberOfPerson 103 = .ok (.ireturn, 1) := by decide +kernel
set_option maxRecDepth 20000 in
theorem ggX1_addLine_X1_hasAllLines : GoodIn wsX1_addLine wsX1_hasAllLines := goodIn_r _ [6, 1, 22, 23, 24, 25, 26, 27, 28, 29, 30, 31, 32] (by decide +kernel) (by decide +kernel)
set_option maxRecDepth 20000 in
theorem gX1_addLine_X1_hasAllLines : GoodIn wsX1_addLine (wsV RX1 138 RX1 yX1_hasAllLines wsX1_hasAllLines) := goodIn_app (goodIn_of _ (by decide +kernel)) ggX1_addLine_X1_hasAllLines
set_option maxRecDepth 20000 in
theorem ggX1_addLine_X1_lineOf : GoodIn wsX1_addLine wsX1_lineOf := goodIn_r _ [10, 11, 12, 22, 23, 24, 25, 26, 27, 28, 29, 30, 31, 32] (by decide +kernel) (by decide +kernel)
set_option maxRecDepth 20000 in
theorem gX1_addLine_X1_lineOf : GoodIn wsX1_addLine (wsV RX1 65 RX1 yX1_lineOf wsX1_lineOf) := goodIn_app (goodIn_of _ (by decide +kernel)) ggX1_addLine_X1_lineOf
set_option maxRecDepth 20000 in
theorem ggX1_addLine_X3_begin : GoodIn wsX1_addLine wsX3_begin := goodIn_r _ [17, 18, 19, 20, 21, 33, 34, 35, 36, 37] (by decide +kernel) (by decide +kernel)
set_option maxRecDepth 20000 in
theorem gX1_addLine_X3_begin : GoodIn wsX1_addLine (wsV RX1 142 RX3 yX3_begin wsX3_begin) := goodIn_app (goodIn_of _ (by decide +kernel)) ggX1_addLine_X3_begin
theorem dX1_addLine_0 : decode cX1_addLine 0 = .ok (.aload_n 0, 1) := by decide +kernel
theorem dX1_addLine_1 : decode cX1_addLine 1 = .ok (.invokevirtual 138, 3) := by decide +kernel
theorem dX1_addLine_4 : decode cX1_addLine 4 = .ok (.ifCond .eq 5, 3) := by decide +kernel
theorem dX1_addLine_7 : decode cX1_addLine 7 = .ok (.iconst (-1), 1) := by decide +kernel
theorem dX1_addLine_8 : decode cX1_addLine 8 = .ok (.ireturn, 1) := by decide +kernel
theorem dX1_addLine_9 : decode cX1_addLine 9 = .ok (.aload_n 0, 1) := by decide +kernel
theorem dX1_addLine_10 : decode cX1_addLine 10 = .ok (.aload_n 0, 1) := by decide +kernel
theorem dX1_addLine_11 : decode cX1_addLine 11 = .ok (.getfield 37, 3) := by decide +kernel
theorem dX1_addLine_14 : decode cX1_addLine 14 = .ok (.invokevirtual 65, 3) := by decide +kernel
theorem dX1_addLine_17 : decode cX1_addLine 17 = .ok (.iload_n 1, 1) := by decide +kernel
theorem dX1_addLine_18 : decode cX1_addLine 18 = .ok (.invokevirtual 142, 3) := by decide +kernel
theorem dX1_addLine_21 : decode cX1_addLine 21 = .ok (.aload_n 0, 1) := by decide +kernel
theorem dX1_addLine_22 : decode cX1_addLine 22 = .ok (.dup, 1) := by decide +kernel
theorem dX1_addLine_23 : decode cX1_addLine 23 = .ok (.getfield 37, 3) := by decide +kernel
theorem dX1_addLine_26 : decode cX1_addLine 26 = .ok (.iconst 1, 1) := by decide +kernel
theorem dX1_addLine_27 : decode cX1_addLine 27 = .ok (.iadd, 1) := by decide +kernel
theorem dX1_addLine_28 : decode cX1_addLine 28 = .ok (.putfield 37, 3) := by decide +kernel
theorem dX1_addLine_31 : decode cX1_addLine 31 = .ok (.aload_n 0, 1) := by decide +kernel
theorem dX1_addLine_32 : decode cX1_addLine 32 = .ok (.getfield 37, 3) := by decide +kernel
theorem dX1_addLine_35 : decode cX1_addLine 35 = .ok (.iconst 1, 1) := by decide +kernel
theorem dX1_addLine_36 : decode cX1_addLine 36 = .ok (.isub, 1) := by decide +kernel
theorem dX1_addLine_37 : decode cX1_addLine 37 = .ok (.ireturn, 1) := by decide +kernel
set_option maxRecDepth 20000 in
theorem ggX1_mayEnter_X1_isLine : GoodIn wsX1_mayEnter wsX1_isLine := goodIn_r _ [7, 8, 18, 19, 20, 21, 22, 23, 24, 25, 26, 27, 28] (by decide +kernel) (by decide +kernel)
set_option maxRecDepth 20000 in
theorem gX1_mayEnter_X1_isLine : GoodIn wsX1_mayEnter (wsV RX1 146 RX1 yX1_isLine wsX1_isLine) := goodIn_app (goodIn_of _ (by decide +kernel)) ggX1_mayEnter_X1_isLine
set_option maxRecDepth 20000 in
theorem ggX1_mayEnter_X5_isKind : GoodIn wsX1_mayEnter wsX5_isKind := goodIn_r _ [11] (by decide +kernel) (by decide +kernel)
set_option maxRecDepth 20000 in
theorem gX1_mayEnter_X5_isKind_n149 : GoodIn wsX1_mayEnter (wsX5_isKind) := ggX1_mayEnter_X5_isKind
set_option maxRecDepth 20000 in
theorem ggX1_mayEnter_X1_lineOf : GoodIn wsX1_mayEnter wsX1_lineOf := goodIn_r _ [15, 16, 17, 18, 19, 20, 21, 22, 23, 24, 25, 26, 27, 28] (by decide +kernel) (by decide +kernel)
set_option maxRecDepth 20000 in
theorem gX1_mayEnter_X1_lineOf : GoodIn wsX1_mayEnter (wsV RX1 65 RX1 yX1_lineOf wsX1_lineOf) := goodIn_app (goodIn_of _ (by decide +kernel)) ggX1_mayEnter_X1_lineOf
theorem dX1_mayEnter_0 : decode cX1_mayEnter 0 = .ok (.aload_n 0, 1) := by decide +kernel
theorem dX1_mayEnter_1 : decode cX1_mayEnter 1 = .ok (.iload_n 1, 1) := by decide +kernel
theorem dX1_mayEnter_2 : decode cX1_mayEnter 2 = .ok (.invokevirtual 146, 3) := by decide +kernel
theorem dX1_mayEnter_5 : decode cX1_mayEnter 5 = .ok (.ifCond .eq 36, 3) := by decide +kernel
theorem dX1_mayEnter_8 : decode cX1_mayEnter 8 = .ok (.iload_n 2, 1) := by decide +kernel
theorem dX1_mayEnter_9 : decode cX1_mayEnter 9 = .ok (.invokestatic 149, 3) := by decide +kernel
theorem dX1_mayEnter_12 : decode cX1_mayEnter 12 = .ok (.ifCond .eq 29, 3) := by decide +kernel
theorem dX1_mayEnter_15 : decode cX1_mayEnter 15 = .ok (.aload_n 0, 1) := by decide +kernel
theorem dX1_mayEnter_16 : decode cX1_mayEnter 16 = .ok (.getfield 41, 3) := by decide +kernel
theorem dX1_mayEnter_19 : decode cX1_mayEnter 19 = .ok (.bipush 30, 2) := by decide +kernel
theorem dX1_mayEnter_21 : decode cX1_mayEnter 21 = .ok (.if_icmp .ge 20, 3) := by decide +kernel
theorem dX1_mayEnter_24 : decode cX1_mayEnter 24 = .ok (.aload_n 0, 1) := by decide +kernel
theorem dX1_mayEnter_25 : decode cX1_mayEnter 25 = .ok (.iload_n 1, 1) := by decide +kernel
theorem dX1_mayEnter_26 : decode cX1_mayEnter 26 = .ok (.invokevirtual 65, 3) := by decide +kernel
theorem dX1_mayEnter_29 : decode cX1_mayEnter 29 = .ok (.getfield 106, 3) := by decide +kernel
theorem dX1_mayEnter_32 : decode cX1_mayEnter 32 = .ok (.bipush 12, 2) := by decide +kernel
theorem dX1_mayEnter_34 : decode cX1_mayEnter 34 = .ok (.if_icmp .ge 7, 3) := by decide +kernel
theorem dX1_mayEnter_37 : decode cX1_mayEnter 37 = .ok (.iconst 1, 1) := by decide +kernel
theorem dX1_mayEnter_38 : decode cX1_mayEnter 38 = .ok (.goto 4, 3) := by decide +kernel
theorem dX1_mayEnter_41 : decode cX1_mayEnter 41 = .ok (.iconst 0, 1) := by decide +kernel
theorem dX1_mayEnter_42 : decode cX1_mayEnter 42 = .ok (.ireturn, 1) := by decide +kernel
set_option maxRecDepth 20000 in
theorem ggX1_enter_X1_mayEnter : GoodIn wsX1_enter wsX1_mayEnter := goodIn_r _ [7, 1, 8, 9, 10, 11, 6, 12, 13, 14, 15, 16, 17, 18, 19, 20, 21, 22, 50, 51, 52, 53, 54, 55, 56, 57, 58, 59, 60, 61, 62, 63, 64, 65] (by decide +kernel) (by decide +kernel)
set_option maxRecDepth 20000 in
theorem gX1_enter_X1_mayEnter : GoodIn wsX1_enter (wsV RX1 152 RX1 yX1_mayEnter wsX1_mayEnter) := goodIn_app (goodIn_of _ (by decide +kernel)) ggX1_enter_X1_mayEnter
set_option maxRecDepth 20000 in
theorem ggX1_enter_X1_personOf : GoodIn wsX1_enter wsX1_personOf := goodIn_r _ [26, 27, 28, 50, 51, 52, 53, 54, 55, 56, 57, 58, 59, 60] (by decide +kernel) (by decide +kernel)
set_option maxRecDepth 20000 in
theorem gX1_enter_X1_personOf : GoodIn wsX1_enter (wsV RX1 73 RX1 yX1_personOf wsX1_personOf) := goodIn_app (goodIn_of _ (by decide +kernel)) ggX1_enter_X1_personOf
set_option maxRecDepth 20000 in
theorem ggX1_enter_X4_enter : GoodIn wsX1_enter wsX4_enter := goodIn_r _ [33, 34, 35, 36, 37, 38, 39, 40, 41, 42, 66, 67, 68, 69, 70, 71, 72, 73, 74] (by decide +kernel) (by decide +kernel)
set_option maxRecDepth 20000 in
theorem gX1_enter_X4_enter : GoodIn wsX1_enter (wsV RX1 156 RX4 yX4_enter wsX4_enter) := goodIn_app (goodIn_of _ (by decide +kernel)) ggX1_enter_X4_enter
set_option maxRecDepth 20000 in
theorem ggX1_enter_X1_lineOf : GoodIn wsX1_enter wsX1_lineOf := goodIn_r _ [20, 21, 22, 50, 51, 52, 53, 54, 55, 56, 57, 58, 59, 60] (by decide +kernel) (by decide +kernel)
set_option maxRecDepth 20000 in
theorem gX1_enter_X1_lineOf : GoodIn wsX1_enter (wsV RX1 65 RX1 yX1_lineOf wsX1_lineOf) := goodIn_app (goodIn_of _ (by decide +kernel)) ggX1_enter_X1_lineOf
set_option maxRecDepth 20000 in
theorem ggX1_enter_X3_add : GoodIn wsX1_enter wsX3_add := goodIn_r _ [47, 48, 49, 61, 62, 63, 64, 65] (by decide +kernel) (by decide +kernel)
set_option maxRecDepth 20000 in
theorem gX1_enter_X3_add : GoodIn wsX1_enter (wsV RX1 160 RX3 yX3_add wsX3_add) := goodIn_app (goodIn_of _ (by decide +kernel)) ggX1_enter_X3_add
theorem dX1_enter_0 : decode cX1_enter 0 = .ok (.aload_n 0, 1) := by decide +kernel
theorem dX1_enter_1 : decode cX1_enter 1 = .ok (.iload_n 1, 1) := by decide +kernel
theorem dX1_enter_2 : decode cX1_enter 2 = .ok (.iload_n 2, 1) := by decide +kernel
theorem dX1_enter_3 : decode cX1_enter 3 = .ok (.invokevirtual 152, 3) := by decide +kernel
theorem dX1_enter_6 : decode cX1_enter 6 = .ok (.ifCond .ne 5, 3) := by decide +kernel
theorem dX1_enter_9 : decode cX1_enter 9 = .ok (.iconst (-1), 1) := by decide +kernel
theorem dX1_enter_10 : decode cX1_enter 10 = .ok (.ireturn, 1) := by decide +kernel
theorem dX1_enter_11 : decode cX1_enter 11 = .ok (.aload_n 0, 1) := by decide +kernel
theorem dX1_enter_12 : decode cX1_enter 12 = .ok (.getfield 41, 3) := by decide +kernel
theorem dX1_enter_15 : decode cX1_enter 15 = .ok (.istore_n 3, 1) := by decide +kernel
theorem dX1_enter_16 : decode cX1_enter 16 = .ok (.aload_n 0, 1) := by decide +kernel
theorem dX1_enter_17 : decode cX1_enter 17 = .ok (.dup, 1) := by decide +kernel
theorem dX1_enter_18 : decode cX1_enter 18 = .ok (.getfield 41, 3) := by decide +kernel
