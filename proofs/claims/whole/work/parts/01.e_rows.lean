theorem dX6_init_0 : decode cX6_init 0 = .ok (.aload_n 0, 1) := by decide +kernel
theorem dX6_init_1 : decode cX6_init 1 = .ok (.invokespecial 1, 3) := by decide +kernel
theorem dX6_init_4 : decode cX6_init 4 = .ok (.aload_n 0, 1) := by decide +kernel
theorem dX6_init_5 : decode cX6_init 5 = .ok (.sipush 358, 3) := by decide +kernel
theorem dX6_init_8 : decode cX6_init 8 = .ok (.newarray .int, 2) := by decide +kernel
theorem dX6_init_10 : decode cX6_init 10 = .ok (.putfield 7, 3) := by decide +kernel
theorem dX6_init_13 : decode cX6_init 13 = .ok (.aload_n 0, 1) := by decide +kernel
theorem dX6_init_14 : decode cX6_init 14 = .ok (.sipush 1074, 3) := by decide +kernel
theorem dX6_init_17 : decode cX6_init 17 = .ok (.newarray .int, 2) := by decide +kernel
theorem dX6_init_19 : decode cX6_init 19 = .ok (.putfield 13, 3) := by decide +kernel
theorem dX6_init_22 : decode cX6_init 22 = .ok (.aload_n 0, 1) := by decide +kernel
theorem dX6_init_23 : decode cX6_init 23 = .ok (.sipush 5012, 3) := by decide +kernel
theorem dX6_init_26 : decode cX6_init 26 = .ok (.newarray .int, 2) := by decide +kernel
theorem dX6_init_28 : decode cX6_init 28 = .ok (.putfield 16, 3) := by decide +kernel
theorem dX6_init_31 : decode cX6_init 31 = .ok (.aload_n 0, 1) := by decide +kernel
theorem dX6_init_32 : decode cX6_init 32 = .ok (.sipush 716, 3) := by decide +kernel
theorem dX6_init_35 : decode cX6_init 35 = .ok (.newarray .int, 2) := by decide +kernel
theorem dX6_init_37 : decode cX6_init 37 = .ok (.putfield 19, 3) := by decide +kernel
theorem dX6_init_40 : decode cX6_init 40 = .ok (.aload_n 0, 1) := by decide +kernel
theorem dX6_init_41 : decode cX6_init 41 = .ok (.iconst 2, 1) := by decide +kernel
theorem dX6_init_42 : decode cX6_init 42 = .ok (.newarray .boolean, 2) := by decide +kernel
theorem dX6_init_44 : decode cX6_init 44 = .ok (.putfield 22, 3) := by decide +kernel
theorem dX6_init_47 : decode cX6_init 47 = .ok (.aload_n 0, 1) := by decide +kernel
theorem dX6_init_48 : decode cX6_init 48 = .ok (.bipush 100, 2) := by decide +kernel
theorem dX6_init_50 : decode cX6_init 50 = .ok (.newarray .byte, 2) := by decide +kernel
theorem dX6_init_52 : decode cX6_init 52 = .ok (.putfield 26, 3) := by decide +kernel
theorem dX6_init_55 : decode cX6_init 55 = .ok (.aload_n 0, 1) := by decide +kernel
theorem dX6_init_56 : decode cX6_init 56 = .ok (.invokevirtual 30, 3) := by decide +kernel
theorem dX6_init_59 : decode cX6_init 59 = .ok (.aload_n 0, 1) := by decide +kernel
theorem dX6_init_60 : decode cX6_init 60 = .ok (.iconst 3, 1) := by decide +kernel
theorem dX6_init_61 : decode cX6_init 61 = .ok (.invokevirtual 33, 3) := by decide +kernel
theorem dX6_init_64 : decode cX6_init 64 = .ok (.pop, 1) := by decide +kernel
theorem dX6_init_65 : decode cX6_init 65 = .ok (.return_, 1) := by decide +kernel
theorem dX6_thrown_0 : decode cX6_thrown 0 = .ok (.aload_n 0, 1) := by decide +kernel
theorem dX6_thrown_1 : decode cX6_thrown 1 = .ok (.getfield 37, 3) := by decide +kernel
theorem dX6_thrown_4 : decode cX6_thrown 4 = .ok (.ireturn, 1) := by decide +kernel
theorem dX6_in_0 : decode cX6_in 0 = .ok (.iload_n 0, 1) := by decide +kernel
theorem dX6_in_1 : decode cX6_in 1 = .ok (.iload_n 1, 1) := by decide +kernel
theorem dX6_in_2 : decode cX6_in 2 = .ok (.if_icmp .lt 12, 3) := by decide +kernel
theorem dX6_in_5 : decode cX6_in 5 = .ok (.iload_n 0, 1) := by decide +kernel
theorem dX6_in_6 : decode cX6_in 6 = .ok (.iload_n 2, 1) := by decide +kernel
theorem dX6_in_7 : decode cX6_in 7 = .ok (.if_icmp .gt 7, 3) := by decide +kernel
theorem dX6_in_10 : decode cX6_in 10 = .ok (.iconst 1, 1) := by decide +kernel
theorem dX6_in_11 : decode cX6_in 11 = .ok (.goto 4, 3) := by decide +kernel
theorem dX6_in_14 : decode cX6_in 14 = .ok (.iconst 0, 1) := by decide +kernel
theorem dX6_in_15 : decode cX6_in 15 = .ok (.ireturn, 1) := by decide +kernel
theorem dX6_holds_0 : decode cX6_holds 0 = .ok (.aload_n 0, 1) := by decide +kernel
theorem dX6_holds_1 : decode cX6_holds 1 = .ok (.iload_n 1, 1) := by decide +kernel
theorem dX6_holds_2 : decode cX6_holds 2 = .ok (.putfield 37, 3) := by decide +kernel
theorem dX6_holds_5 : decode cX6_holds 5 = .ok (.iload_n 1, 1) := by decide +kernel
theorem dX6_holds_6 : decode cX6_holds 6 = .ok (.ifCond .ne 7, 3) := by decide +kernel
theorem dX6_holds_9 : decode cX6_holds 9 = .ok (.iconst 1, 1) := by decide +kernel
theorem dX6_holds_10 : decode cX6_holds 10 = .ok (.goto 4, 3) := by decide +kernel
theorem dX6_holds_13 : decode cX6_holds 13 = .ok (.iconst 0, 1) := by decide +kernel
theorem dX6_holds_14 : decode cX6_holds 14 = .ok (.ireturn, 1) := by decide +kernel
theorem dX6_begin_0 : decode cX6_begin 0 = .ok (.iconst 0, 1) := by decide +kernel
theorem dX6_begin_1 : decode cX6_begin 1 = .ok (.istore_n 1, 1) := by decide +kernel
theorem dX6_begin_2 : decode cX6_begin 2 = .ok (.iload_n 1, 1) := by decide +kernel
theorem dX6_begin_3 : decode cX6_begin 3 = .ok (.sipush 358, 3) := by decide +kernel
theorem dX6_begin_6 : decode cX6_begin 6 = .ok (.if_icmp .ge 16, 3) := by decide +kernel
theorem dX6_begin_9 : decode cX6_begin 9 = .ok (.aload_n 0, 1) := by decide +kernel
theorem dX6_begin_10 : decode cX6_begin 10 = .ok (.getfield 7, 3) := by decide +kernel
theorem dX6_begin_13 : decode cX6_begin 13 = .ok (.iload_n 1, 1) := by decide +kernel
theorem dX6_begin_14 : decode cX6_begin 14 = .ok (.iconst 0, 1) := by decide +kernel
theorem dX6_begin_15 : decode cX6_begin 15 = .ok (.iastore, 1) := by decide +kernel
theorem dX6_begin_16 : decode cX6_begin 16 = .ok (.iinc 1 1, 3) := by decide +kernel
theorem dX6_begin_19 : decode cX6_begin 19 = .ok (.goto (-17), 3) := by decide +kernel
theorem dX6_begin_22 : decode cX6_begin 22 = .ok (.aload_n 0, 1) := by decide +kernel
theorem dX6_begin_23 : decode cX6_begin 23 = .ok (.getfield 7, 3) := by decide +kernel
theorem dX6_begin_26 : decode cX6_begin 26 = .ok (.bipush 6, 2) := by decide +kernel
theorem dX6_begin_28 : decode cX6_begin 28 = .ok (.bipush 30, 2) := by decide +kernel
theorem dX6_begin_30 : decode cX6_begin 30 = .ok (.iastore, 1) := by decide +kernel
theorem dX6_begin_31 : decode cX6_begin 31 = .ok (.aload_n 0, 1) := by decide +kernel
theorem dX6_begin_32 : decode cX6_begin 32 = .ok (.getfield 7, 3) := by decide +kernel
theorem dX6_begin_35 : decode cX6_begin 35 = .ok (.bipush 7, 2) := by decide +kernel
theorem dX6_begin_37 : decode cX6_begin 37 = .ok (.iconst 5, 1) := by decide +kernel
theorem dX6_begin_38 : decode cX6_begin 38 = .ok (.iastore, 1) := by decide +kernel
theorem dX6_begin_39 : decode cX6_begin 39 = .ok (.aload_n 0, 1) := by decide +kernel
theorem dX6_begin_40 : decode cX6_begin 40 = .ok (.getfield 7, 3) := by decide +kernel
theorem dX6_begin_43 : decode cX6_begin 43 = .ok (.bipush 8, 2) := by decide +kernel
theorem dX6_begin_45 : decode cX6_begin 45 = .ok (.iconst 2, 1) := by decide +kernel
theorem dX6_begin_46 : decode cX6_begin 46 = .ok (.iastore, 1) := by decide +kernel
theorem dX6_begin_47 : decode cX6_begin 47 = .ok (.aload_n 0, 1) := by decide +kernel
theorem dX6_begin_48 : decode cX6_begin 48 = .ok (.getfield 7, 3) := by decide +kernel
theorem dX6_begin_51 : decode cX6_begin 51 = .ok (.bipush 9, 2) := by decide +kernel
theorem dX6_begin_53 : decode cX6_begin 53 = .ok (.iconst 2, 1) := by decide +kernel
theorem dX6_begin_54 : decode cX6_begin 54 = .ok (.iastore, 1) := by decide +kernel
theorem dX6_begin_55 : decode cX6_begin 55 = .ok (.aload_n 0, 1) := by decide +kernel
theorem dX6_begin_56 : decode cX6_begin 56 = .ok (.iconst 0, 1) := by decide +kernel
theorem dX6_begin_57 : decode cX6_begin 57 = .ok (.putfield 41, 3) := by decide +kernel
theorem dX6_begin_60 : decode cX6_begin 60 = .ok (.aload_n 0, 1) := by decide +kernel
theorem dX6_begin_61 : decode cX6_begin 61 = .ok (.getfield 22, 3) := by decide +kernel
theorem dX6_begin_64 : decode cX6_begin 64 = .ok (.iconst 0, 1) := by decide +kernel
theorem dX6_begin_65 : decode cX6_begin 65 = .ok (.iconst 0, 1) := by decide +kernel
theorem dX6_begin_66 : decode cX6_begin 66 = .ok (.bastore, 1) := by decide +kernel
theorem dX6_begin_67 : decode cX6_begin 67 = .ok (.aload_n 0, 1) := by decide +kernel
theorem dX6_begin_68 : decode cX6_begin 68 = .ok (.getfield 22, 3) := by decide +kernel
theorem dX6_begin_71 : decode cX6_begin 71 = .ok (.iconst 1, 1) := by decide +kernel
theorem dX6_begin_72 : decode cX6_begin 72 = .ok (.iconst 0, 1) := by decide +kernel
theorem dX6_begin_73 : decode cX6_begin 73 = .ok (.bastore, 1) := by decide +kernel
theorem dX6_begin_74 : decode cX6_begin 74 = .ok (.return_, 1) := by decide +kernel
theorem dX6_push_0 : decode cX6_push 0 = .ok (.iconst 0, 1) := by decide +kernel
theorem dX6_push_1 : decode cX6_push 1 = .ok (.istore_n 1, 1) := by decide +kernel
theorem dX6_push_2 : decode cX6_push 2 = .ok (.iload_n 1, 1) := by decide +kernel
theorem dX6_push_3 : decode cX6_push 3 = .ok (.sipush 358, 3) := by decide +kernel
theorem dX6_push_6 : decode cX6_push 6 = .ok (.if_icmp .ge 30, 3) := by decide +kernel
theorem dX6_push_9 : decode cX6_push 9 = .ok (.aload_n 0, 1) := by decide +kernel
theorem dX6_push_10 : decode cX6_push 10 = .ok (.getfield 13, 3) := by decide +kernel
theorem dX6_push_13 : decode cX6_push 13 = .ok (.sipush 358, 3) := by decide +kernel
theorem dX6_push_16 : decode cX6_push 16 = .ok (.aload_n 0, 1) := by decide +kernel
theorem dX6_push_17 : decode cX6_push 17 = .ok (.getfield 44, 3) := by decide +kernel
theorem dX6_push_20 : decode cX6_push 20 = .ok (.imul, 1) := by decide +kernel
theorem dX6_push_21 : decode cX6_push 21 = .ok (.iload_n 1, 1) := by decide +kernel
theorem dX6_push_22 : decode cX6_push 22 = .ok (.iadd, 1) := by decide +kernel
theorem dX6_push_23 : decode cX6_push 23 = .ok (.aload_n 0, 1) := by decide +kernel
theorem dX6_push_24 : decode cX6_push 24 = .ok (.getfield 7, 3) := by decide +kernel
theorem dX6_push_27 : decode cX6_push 27 = .ok (.iload_n 1, 1) := by decide +kernel
theorem dX6_push_28 : decode cX6_push 28 = .ok (.iaload, 1) := by decide +kernel
theorem dX6_push_29 : decode cX6_push 29 = .ok (.iastore, 1) := by decide +kernel
theorem dX6_push_30 : decode cX6_push 30 = .ok (.iinc 1 1, 3) := by decide +kernel
theorem dX6_push_33 : decode cX6_push 33 = .ok (.goto (-31), 3) := by decide +kernel
theorem dX6_push_36 : decode cX6_push 36 = .ok (.aload_n 0, 1) := by decide +kernel
theorem dX6_push_37 : decode cX6_push 37 = .ok (.dup, 1) := by decide +kernel
theorem dX6_push_38 : decode cX6_push 38 = .ok (.getfield 44, 3) := by decide +kernel
theorem dX6_push_41 : decode cX6_push 41 = .ok (.iconst 1, 1) := by decide +kernel
theorem dX6_push_42 : decode cX6_push 42 = .ok (.iadd, 1) := by decide +kernel
theorem dX6_push_43 : decode cX6_push 43 = .ok (.putfield 44, 3) := by decide +kernel
theorem dX6_push_46 : decode cX6_push 46 = .ok (.return_, 1) := by decide +kernel
theorem dX6_pop_0 : decode cX6_pop 0 = .ok (.aload_n 0, 1) := by decide +kernel
theorem dX6_pop_1 : decode cX6_pop 1 = .ok (.dup, 1) := by decide +kernel
theorem dX6_pop_2 : decode cX6_pop 2 = .ok (.getfield 44, 3) := by decide +kernel
theorem dX6_pop_5 : decode cX6_pop 5 = .ok (.iconst 1, 1) := by decide +kernel
theorem dX6_pop_6 : decode cX6_pop 6 = .ok (.isub, 1) := by decide +kernel
theorem dX6_pop_7 : decode cX6_pop 7 = .ok (.putfield 44, 3) := by decide +kernel
theorem dX6_pop_10 : decode cX6_pop 10 = .ok (.iconst 0, 1) := by decide +kernel
theorem dX6_pop_11 : decode cX6_pop 11 = .ok (.istore_n 1, 1) := by decide +kernel
theorem dX6_pop_12 : decode cX6_pop 12 = .ok (.iload_n 1, 1) := by decide +kernel
theorem dX6_pop_13 : decode cX6_pop 13 = .ok (.sipush 358, 3) := by decide +kernel
theorem dX6_pop_16 : decode cX6_pop 16 = .ok (.if_icmp .ge 30, 3) := by decide +kernel
theorem dX6_pop_19 : decode cX6_pop 19 = .ok (.aload_n 0, 1) := by decide +kernel
theorem dX6_pop_20 : decode cX6_pop 20 = .ok (.getfield 7, 3) := by decide +kernel
theorem dX6_pop_23 : decode cX6_pop 23 = .ok (.iload_n 1, 1) := by decide +kernel
theorem dX6_pop_24 : decode cX6_pop 24 = .ok (.aload_n 0, 1) := by decide +kernel
theorem dX6_pop_25 : decode cX6_pop 25 = .ok (.getfield 13, 3) := by decide +kernel
theorem dX6_pop_28 : decode cX6_pop 28 = .ok (.sipush 358, 3) := by decide +kernel
theorem dX6_pop_31 : decode cX6_pop 31 = .ok (.aload_n 0, 1) := by decide +kernel
theorem dX6_pop_32 : decode cX6_pop 32 = .ok (.getfield 44, 3) := by decide +kernel
theorem dX6_pop_35 : decode cX6_pop 35 = .ok (.imul, 1) := by decide +kernel
theorem dX6_pop_36 : decode cX6_pop 36 = .ok (.iload_n 1, 1) := by decide +kernel
theorem dX6_pop_37 : decode cX6_pop 37 = .ok (.iadd, 1) := by decide +kernel
theorem dX6_pop_38 : decode cX6_pop 38 = .ok (.iaload, 1) := by decide +kernel
theorem dX6_pop_39 : decode cX6_pop 39 = .ok (.iastore, 1) := by decide +kernel
theorem dX6_pop_40 : decode cX6_pop 40 = .ok (.iinc 1 1, 3) := by decide +kernel
theorem dX6_pop_43 : decode cX6_pop 43 = .ok (.goto (-31), 3) := by decide +kernel
theorem dX6_pop_46 : decode cX6_pop 46 = .ok (.return_, 1) := by decide +kernel
theorem dX6_remember_0 : decode cX6_remember 0 = .ok (.aload_n 0, 1) := by decide +kernel
theorem dX6_remember_1 : decode cX6_remember 1 = .ok (.getfield 41, 3) := by decide +kernel
theorem dX6_remember_4 : decode cX6_remember 4 = .ok (.bipush 14, 2) := by decide +kernel
theorem dX6_remember_6 : decode cX6_remember 6 = .ok (.if_icmp .ne 44, 3) := by decide +kernel
theorem dX6_remember_9 : decode cX6_remember 9 = .ok (.iconst 0, 1) := by decide +kernel
theorem dX6_remember_10 : decode cX6_remember 10 = .ok (.istore_n 1, 1) := by decide +kernel
theorem dX6_remember_11 : decode cX6_remember 11 = .ok (.iload_n 1, 1) := by decide +kernel
theorem dX6_remember_12 : decode cX6_remember 12 = .ok (.sipush 4654, 3) := by decide +kernel
theorem dX6_remember_15 : decode cX6_remember 15 = .ok (.if_icmp .ge 25, 3) := by decide +kernel
theorem dX6_remember_18 : decode cX6_remember 18 = .ok (.aload_n 0, 1) := by decide +kernel
theorem dX6_remember_19 : decode cX6_remember 19 = .ok (.getfield 16, 3) := by decide +kernel
theorem dX6_remember_22 : decode cX6_remember 22 = .ok (.iload_n 1, 1) := by decide +kernel
theorem dX6_remember_23 : decode cX6_remember 23 = .ok (.aload_n 0, 1) := by decide +kernel
theorem dX6_remember_24 : decode cX6_remember 24 = .ok (.getfield 16, 3) := by decide +kernel
theorem dX6_remember_27 : decode cX6_remember 27 = .ok (.sipush 358, 3) := by decide +kernel
theorem dX6_remember_30 : decode cX6_remember 30 = .ok (.iload_n 1, 1) := by decide +kernel
theorem dX6_remember_31 : decode cX6_remember 31 = .ok (.iadd, 1) := by decide +kernel
theorem dX6_remember_32 : decode cX6_remember 32 = .ok (.iaload, 1) := by decide +kernel
theorem dX6_remember_33 : decode cX6_remember 33 = .ok (.iastore, 1) := by decide +kernel
theorem dX6_remember_34 : decode cX6_remember 34 = .ok (.iinc 1 1, 3) := by decide +kernel
theorem dX6_remember_37 : decode cX6_remember 37 = .ok (.goto (-26), 3) := by decide +kernel
theorem dX6_remember_40 : decode cX6_remember 40 = .ok (.aload_n 0, 1) := by decide +kernel
theorem dX6_remember_41 : decode cX6_remember 41 = .ok (.dup, 1) := by decide +kernel
theorem dX6_remember_42 : decode cX6_remember 42 = .ok (.getfield 41, 3) := by decide +kernel
theorem dX6_remember_45 : decode cX6_remember 45 = .ok (.iconst 1, 1) := by decide +kernel
theorem dX6_remember_46 : decode cX6_remember 46 = .ok (.isub, 1) := by decide +kernel
theorem dX6_remember_47 : decode cX6_remember 47 = .ok (.putfield 41, 3) := by decide +kernel
theorem dX6_remember_50 : decode cX6_remember 50 = .ok (.iconst 0, 1) := by decide +kernel
theorem dX6_remember_51 : decode cX6_remember 51 = .ok (.istore_n 1, 1) := by decide +kernel
theorem dX6_remember_52 : decode cX6_remember 52 = .ok (.iload_n 1, 1) := by decide +kernel
theorem dX6_remember_53 : decode cX6_remember 53 = .ok (.sipush 358, 3) := by decide +kernel
theorem dX6_remember_56 : decode cX6_remember 56 = .ok (.if_icmp .ge 30, 3) := by decide +kernel
theorem dX6_remember_59 : decode cX6_remember 59 = .ok (.aload_n 0, 1) := by decide +kernel
theorem dX6_remember_60 : decode cX6_remember 60 = .ok (.getfield 16, 3) := by decide +kernel
theorem dX6_remember_63 : decode cX6_remember 63 = .ok (.sipush 358, 3) := by decide +kernel
theorem dX6_remember_66 : decode cX6_remember 66 = .ok (.aload_n 0, 1) := by decide +kernel
theorem dX6_remember_67 : decode cX6_remember 67 = .ok (.getfield 41, 3) := by decide +kernel
theorem dX6_remember_70 : decode cX6_remember 70 = .ok (.imul, 1) := by decide +kernel
theorem dX6_remember_71 : decode cX6_remember 71 = .ok (.iload_n 1, 1) := by decide +kernel
theorem dX6_remember_72 : decode cX6_remember 72 = .ok (.iadd, 1) := by decide +kernel
theorem dX6_remember_73 : decode cX6_remember 73 = .ok (.aload_n 0, 1) := by decide +kernel
theorem dX6_remember_74 : decode cX6_remember 74 = .ok (.getfield 7, 3) := by decide +kernel
theorem dX6_remember_77 : decode cX6_remember 77 = .ok (.iload_n 1, 1) := by decide +kernel
theorem dX6_remember_78 : decode cX6_remember 78 = .ok (.iaload, 1) := by decide +kernel
theorem dX6_remember_79 : decode cX6_remember 79 = .ok (.iastore, 1) := by decide +kernel
theorem dX6_remember_80 : decode cX6_remember 80 = .ok (.iinc 1 1, 3) := by decide +kernel
theorem dX6_remember_83 : decode cX6_remember 83 = .ok (.goto (-31), 3) := by decide +kernel
theorem dX6_remember_86 : decode cX6_remember 86 = .ok (.aload_n 0, 1) := by decide +kernel
theorem dX6_remember_87 : decode cX6_remember 87 = .ok (.dup, 1) := by decide +kernel
theorem dX6_remember_88 : decode cX6_remember 88 = .ok (.getfield 41, 3) := by decide +kernel
theorem dX6_remember_91 : decode cX6_remember 91 = .ok (.iconst 1, 1) := by decide +kernel
theorem dX6_remember_92 : decode cX6_remember 92 = .ok (.iadd, 1) := by decide +kernel
theorem dX6_remember_93 : decode cX6_remember 93 = .ok (.putfield 41, 3) := by decide +kernel
theorem dX6_remember_96 : decode cX6_remember 96 = .ok (.return_, 1) := by decide +kernel
set_option maxRecDepth 20000 in
theorem ggX6_isLine_X6_in : GoodIn wsX6_isLine wsX6_in := goodIn_r _ [5] (by decide +kernel) (by decide +kernel)
set_option maxRecDepth 20000 in
theorem gX6_isLine_X6_in : GoodIn wsX6_isLine (va_wsS RX6 47 yX6_in wsX6_in) := goodIn_app (goodIn_of _ (by decide +kernel)) ggX6_isLine_X6_in
theorem dX6_isLine_0 : decode cX6_isLine 0 = .ok (.iload_n 1, 1) := by decide +kernel
theorem dX6_isLine_1 : decode cX6_isLine 1 = .ok (.iconst 0, 1) := by decide +kernel
theorem dX6_isLine_2 : decode cX6_isLine 2 = .ok (.aload_n 0, 1) := by decide +kernel
theorem dX6_isLine_3 : decode cX6_isLine 3 = .ok (.getfield 7, 3) := by decide +kernel
theorem dX6_isLine_6 : decode cX6_isLine 6 = .ok (.iconst 1, 1) := by decide +kernel
theorem dX6_isLine_7 : decode cX6_isLine 7 = .ok (.iaload, 1) := by decide +kernel
theorem dX6_isLine_8 : decode cX6_isLine 8 = .ok (.iconst 1, 1) := by decide +kernel
theorem dX6_isLine_9 : decode cX6_isLine 9 = .ok (.isub, 1) := by decide +kernel
theorem dX6_isLine_10 : decode cX6_isLine 10 = .ok (.invokestatic 47, 3) := by decide +kernel
theorem dX6_isLine_13 : decode cX6_isLine 13 = .ok (.ireturn, 1) := by decide +kernel
set_option maxRecDepth 20000 in
theorem ggX6_isPerson_X6_in : GoodIn wsX6_isPerson wsX6_in := goodIn_r _ [5] (by decide +kernel) (by decide +kernel)
set_option maxRecDepth 20000 in
theorem gX6_isPerson_X6_in : GoodIn wsX6_isPerson (va_wsS RX6 47 yX6_in wsX6_in) := goodIn_app (goodIn_of _ (by decide +kernel)) ggX6_isPerson_X6_in
theorem dX6_isPerson_0 : decode cX6_isPerson 0 = .ok (.iload_n 1, 1) := by decide +kernel
theorem dX6_isPerson_1 : decode cX6_isPerson 1 = .ok (.iconst 0, 1) := by decide +kernel
theorem dX6_isPerson_2 : decode cX6_isPerson 2 = .ok (.aload_n 0, 1) := by decide +kernel
theorem dX6_isPerson_3 : decode cX6_isPerson 3 = .ok (.getfield 7, 3) := by decide +kernel
theorem dX6_isPerson_6 : decode cX6_isPerson 6 = .ok (.iconst 2, 1) := by decide +kernel
theorem dX6_isPerson_7 : decode cX6_isPerson 7 = .ok (.iaload, 1) := by decide +kernel
theorem dX6_isPerson_8 : decode cX6_isPerson 8 = .ok (.iconst 1, 1) := by decide +kernel
theorem dX6_isPerson_9 : decode cX6_isPerson 9 = .ok (.isub, 1) := by decide +kernel
theorem dX6_isPerson_10 : decode cX6_isPerson 10 = .ok (.invokestatic 47, 3) := by decide +kernel
theorem dX6_isPerson_13 : decode cX6_isPerson 13 = .ok (.ireturn, 1) := by decide +kernel
theorem dX6_of_0 : decode cX6_of 0 = .ok (.bipush 58, 2) := by decide +kernel
theorem dX6_of_2 : decode cX6_of 2 = .ok (.bipush 10, 2) := by decide +kernel
theorem dX6_of_4 : decode cX6_of 4 = .ok (.iload_n 0, 1) := by decide +kernel
theorem dX6_of_5 : decode cX6_of 5 = .ok (.imul, 1) := by decide +kernel
theorem dX6_of_6 : decode cX6_of 6 = .ok (.iadd, 1) := by decide +kernel
theorem dX6_of_7 : decode cX6_of 7 = .ok (.iload_n 1, 1) := by decide +kernel
theorem dX6_of_8 : decode cX6_of 8 = .ok (.iadd, 1) := by decide +kernel
theorem dX6_of_9 : decode cX6_of 9 = .ok (.ireturn, 1) := by decide +kernel
set_option maxRecDepth 20000 in
theorem ggX6_isStanding_X6_of : GoodIn wsX6_isStanding wsX6_of := goodIn_r _ [5] (by decide +kernel) (by decide +kernel)
set_option maxRecDepth 20000 in
theorem gX6_isStanding_X6_of : GoodIn wsX6_isStanding (va_wsS RX6 51 yX6_of wsX6_of) := goodIn_app (goodIn_of _ (by decide +kernel)) ggX6_isStanding_X6_of
theorem dX6_isStanding_0 : decode cX6_isStanding 0 = .ok (.aload_n 0, 1) := by decide +kernel
theorem dX6_isStanding_1 : decode cX6_isStanding 1 = .ok (.getfield 7, 3) := by decide +kernel
theorem dX6_isStanding_4 : decode cX6_isStanding 4 = .ok (.iload_n 1, 1) := by decide +kernel
theorem dX6_isStanding_5 : decode cX6_isStanding 5 = .ok (.iconst 5, 1) := by decide +kernel
theorem dX6_isStanding_6 : decode cX6_isStanding 6 = .ok (.invokestatic 51, 3) := by decide +kernel
theorem dX6_isStanding_9 : decode cX6_isStanding 9 = .ok (.iaload, 1) := by decide +kernel
theorem dX6_isStanding_10 : decode cX6_isStanding 10 = .ok (.ifCond .ne 7, 3) := by decide +kernel
theorem dX6_isStanding_13 : decode cX6_isStanding 13 = .ok (.iconst 1, 1) := by decide +kernel
theorem dX6_isStanding_14 : decode cX6_isStanding 14 = .ok (.goto 4, 3) := by decide +kernel
theorem dX6_isStanding_17 : decode cX6_isStanding 17 = .ok (.iconst 0, 1) := by decide +kernel
theorem dX6_isStanding_18 : decode cX6_isStanding 18 = .ok (.ireturn, 1) := by decide +kernel
set_option maxRecDepth 20000 in
theorem ggX6_placeOf_X6_of : GoodIn wsX6_placeOf wsX6_of := goodIn_r _ [5] (by decide +kernel) (by decide +kernel)
set_option maxRecDepth 20000 in
theorem gX6_placeOf_X6_of : GoodIn wsX6_placeOf (va_wsS RX6 51 yX6_of wsX6_of) := goodIn_app (goodIn_of _ (by decide +kernel)) ggX6_placeOf_X6_of
theorem dX6_placeOf_0 : decode cX6_placeOf 0 = .ok (.aload_n 0, 1) := by decide +kernel
theorem dX6_placeOf_1 : decode cX6_placeOf 1 = .ok (.getfield 7, 3) := by decide +kernel
theorem dX6_placeOf_4 : decode cX6_placeOf 4 = .ok (.iload_n 1, 1) := by decide +kernel
theorem dX6_placeOf_5 : decode cX6_placeOf 5 = .ok (.iconst 1, 1) := by decide +kernel
theorem dX6_placeOf_6 : decode cX6_placeOf 6 = .ok (.invokestatic 51, 3) := by decide +kernel
theorem dX6_placeOf_9 : decode cX6_placeOf 9 = .ok (.iaload, 1) := by decide +kernel
theorem dX6_placeOf_10 : decode cX6_placeOf 10 = .ok (.istore_n 2, 1) := by decide +kernel
theorem dX6_placeOf_11 : decode cX6_placeOf 11 = .ok (.iconst (-1), 1) := by decide +kernel
theorem dX6_placeOf_12 : decode cX6_placeOf 12 = .ok (.istore_n 3, 1) := by decide +kernel
theorem dX6_placeOf_13 : decode cX6_placeOf 13 = .ok (.iconst 0, 1) := by decide +kernel
theorem dX6_placeOf_14 : decode cX6_placeOf 14 = .ok (.istore 4, 2) := by decide +kernel
theorem dX6_placeOf_16 : decode cX6_placeOf 16 = .ok (.iload_n 2, 1) := by decide +kernel
theorem dX6_placeOf_17 : decode cX6_placeOf 17 = .ok (.iconst (-1), 1) := by decide +kernel
theorem dX6_placeOf_18 : decode cX6_placeOf 18 = .ok (.if_icmp .eq 49, 3) := by decide +kernel
theorem dX6_placeOf_21 : decode cX6_placeOf 21 = .ok (.iload 4, 2) := by decide +kernel
theorem dX6_placeOf_23 : decode cX6_placeOf 23 = .ok (.aload_n 0, 1) := by decide +kernel
theorem dX6_placeOf_24 : decode cX6_placeOf 24 = .ok (.getfield 7, 3) := by decide +kernel
theorem dX6_placeOf_27 : decode cX6_placeOf 27 = .ok (.bipush 13, 2) := by decide +kernel
theorem dX6_placeOf_29 : decode cX6_placeOf 29 = .ok (.iload_n 2, 1) := by decide +kernel
theorem dX6_placeOf_30 : decode cX6_placeOf 30 = .ok (.iadd, 1) := by decide +kernel
theorem dX6_placeOf_31 : decode cX6_placeOf 31 = .ok (.iaload, 1) := by decide +kernel
theorem dX6_placeOf_32 : decode cX6_placeOf 32 = .ok (.if_icmp .ge 35, 3) := by decide +kernel
theorem dX6_placeOf_35 : decode cX6_placeOf 35 = .ok (.aload_n 0, 1) := by decide +kernel
theorem dX6_placeOf_36 : decode cX6_placeOf 36 = .ok (.getfield 7, 3) := by decide +kernel
theorem dX6_placeOf_39 : decode cX6_placeOf 39 = .ok (.bipush 22, 2) := by decide +kernel
theorem dX6_placeOf_41 : decode cX6_placeOf 41 = .ok (.bipush 12, 2) := by decide +kernel
theorem dX6_placeOf_43 : decode cX6_placeOf 43 = .ok (.iload_n 2, 1) := by decide +kernel
theorem dX6_placeOf_44 : decode cX6_placeOf 44 = .ok (.imul, 1) := by decide +kernel
theorem dX6_placeOf_45 : decode cX6_placeOf 45 = .ok (.iadd, 1) := by decide +kernel
theorem dX6_placeOf_46 : decode cX6_placeOf 46 = .ok (.iload 4, 2) := by decide +kernel
theorem dX6_placeOf_48 : decode cX6_placeOf 48 = .ok (.iadd, 1) := by decide +kernel
theorem dX6_placeOf_49 : decode cX6_placeOf 49 = .ok (.iaload, 1) := by decide +kernel
theorem dX6_placeOf_50 : decode cX6_placeOf 50 = .ok (.iload_n 1, 1) := by decide +kernel
theorem dX6_placeOf_51 : decode cX6_placeOf 51 = .ok (.if_icmp .ne 8, 3) := by decide +kernel
theorem dX6_placeOf_54 : decode cX6_placeOf 54 = .ok (.iload 4, 2) := by decide +kernel
theorem dX6_placeOf_56 : decode cX6_placeOf 56 = .ok (.goto 4, 3) := by decide +kernel
theorem dX6_placeOf_59 : decode cX6_placeOf 59 = .ok (.iload_n 3, 1) := by decide +kernel
theorem dX6_placeOf_60 : decode cX6_placeOf 60 = .ok (.istore_n 3, 1) := by decide +kernel
theorem dX6_placeOf_61 : decode cX6_placeOf 61 = .ok (.iinc 4 1, 3) := by decide +kernel
theorem dX6_placeOf_64 : decode cX6_placeOf 64 = .ok (.goto (-48), 3) := by decide +kernel
theorem dX6_placeOf_67 : decode cX6_placeOf 67 = .ok (.iload_n 3, 1) := by decide +kernel
theorem dX6_placeOf_68 : decode cX6_placeOf 68 = .ok (.ireturn, 1) := by decide +kernel
theorem dX6_lineOf_0 : decode cX6_lineOf 0 = .ok (.aload_n 0, 1) := by decide +kernel
theorem dX6_lineOf_1 : decode cX6_lineOf 1 = .ok (.getfield 7, 3) := by decide +kernel
theorem dX6_lineOf_4 : decode cX6_lineOf 4 = .ok (.iconst 1, 1) := by decide +kernel
theorem dX6_lineOf_5 : decode cX6_lineOf 5 = .ok (.iaload, 1) := by decide +kernel
theorem dX6_lineOf_6 : decode cX6_lineOf 6 = .ok (.istore_n 2, 1) := by decide +kernel
theorem dX6_lineOf_7 : decode cX6_lineOf 7 = .ok (.aload_n 0, 1) := by decide +kernel
theorem dX6_lineOf_8 : decode cX6_lineOf 8 = .ok (.getfield 7, 3) := by decide +kernel
theorem dX6_lineOf_11 : decode cX6_lineOf 11 = .ok (.bipush 10, 2) := by decide +kernel
theorem dX6_lineOf_13 : decode cX6_lineOf 13 = .ok (.iload_n 2, 1) := by decide +kernel
theorem dX6_lineOf_14 : decode cX6_lineOf 14 = .ok (.iadd, 1) := by decide +kernel
theorem dX6_lineOf_15 : decode cX6_lineOf 15 = .ok (.iload_n 1, 1) := by decide +kernel
theorem dX6_lineOf_16 : decode cX6_lineOf 16 = .ok (.iastore, 1) := by decide +kernel
theorem dX6_lineOf_17 : decode cX6_lineOf 17 = .ok (.aload_n 0, 1) := by decide +kernel
theorem dX6_lineOf_18 : decode cX6_lineOf 18 = .ok (.getfield 7, 3) := by decide +kernel
theorem dX6_lineOf_21 : decode cX6_lineOf 21 = .ok (.iconst 1, 1) := by decide +kernel
theorem dX6_lineOf_22 : decode cX6_lineOf 22 = .ok (.dup2, 1) := by decide +kernel
theorem dX6_lineOf_23 : decode cX6_lineOf 23 = .ok (.iaload, 1) := by decide +kernel
theorem dX6_lineOf_24 : decode cX6_lineOf 24 = .ok (.iconst 1, 1) := by decide +kernel
theorem dX6_lineOf_25 : decode cX6_lineOf 25 = .ok (.iadd, 1) := by decide +kernel
theorem dX6_lineOf_26 : decode cX6_lineOf 26 = .ok (.iastore, 1) := by decide +kernel
theorem dX6_lineOf_27 : decode cX6_lineOf 27 = .ok (.iload_n 2, 1) := by decide +kernel
theorem dX6_lineOf_28 : decode cX6_lineOf 28 = .ok (.ireturn, 1) := by decide +kernel
set_option maxRecDepth 20000 in
theorem ggX6_comeFault_X6_isLine : GoodIn wsX6_comeFault wsX6_isLine := goodIn_r _ [6, 1, 7, 8, 5, 9, 10, 11, 12, 13, 14, 15, 16, 17, 18, 19, 20, 21, 22] (by decide +kernel) (by decide +kernel)
set_option maxRecDepth 20000 in
theorem gX6_comeFault_X6_isLine : GoodIn wsX6_comeFault (wsV RX6 55 RX6 yX6_isLine wsX6_isLine) := goodIn_app (goodIn_of _ (by decide +kernel)) ggX6_comeFault_X6_isLine
set_option maxRecDepth 20000 in
theorem ggX6_comeFault_X6_in : GoodIn wsX6_comeFault wsX6_in := goodIn_r _ [9] (by decide +kernel) (by decide +kernel)
set_option maxRecDepth 20000 in
theorem gX6_comeFault_X6_in : GoodIn wsX6_comeFault (va_wsS RX6 47 yX6_in wsX6_in) := goodIn_app (goodIn_of _ (by decide +kernel)) ggX6_comeFault_X6_in
theorem dX6_comeFault_0 : decode cX6_comeFault 0 = .ok (.aload_n 0, 1) := by decide +kernel
theorem dX6_comeFault_1 : decode cX6_comeFault 1 = .ok (.iload_n 1, 1) := by decide +kernel
theorem dX6_comeFault_2 : decode cX6_comeFault 2 = .ok (.invokevirtual 55, 3) := by decide +kernel
theorem dX6_comeFault_5 : decode cX6_comeFault 5 = .ok (.ifCond .ne 5, 3) := by decide +kernel
theorem dX6_comeFault_8 : decode cX6_comeFault 8 = .ok (.iconst 1, 1) := by decide +kernel
theorem dX6_comeFault_9 : decode cX6_comeFault 9 = .ok (.ireturn, 1) := by decide +kernel
theorem dX6_comeFault_10 : decode cX6_comeFault 10 = .ok (.iload_n 2, 1) := by decide +kernel
theorem dX6_comeFault_11 : decode cX6_comeFault 11 = .ok (.iconst 0, 1) := by decide +kernel
theorem dX6_comeFault_12 : decode cX6_comeFault 12 = .ok (.iconst 2, 1) := by decide +kernel
theorem dX6_comeFault_13 : decode cX6_comeFault 13 = .ok (.invokestatic 47, 3) := by decide +kernel
theorem dX6_comeFault_16 : decode cX6_comeFault 16 = .ok (.ifCond .ne 5, 3) := by decide +kernel
theorem dX6_comeFault_19 : decode cX6_comeFault 19 = .ok (.iconst 2, 1) := by decide +kernel
theorem dX6_comeFault_20 : decode cX6_comeFault 20 = .ok (.ireturn, 1) := by decide +kernel
theorem dX6_comeFault_21 : decode cX6_comeFault 21 = .ok (.aload_n 0, 1) := by decide +kernel
theorem dX6_comeFault_22 : decode cX6_comeFault 22 = .ok (.getfield 7, 3) := by decide +kernel
theorem dX6_comeFault_25 : decode cX6_comeFault 25 = .ok (.iconst 2, 1) := by decide +kernel
theorem dX6_comeFault_26 : decode cX6_comeFault 26 = .ok (.iaload, 1) := by decide +kernel
theorem dX6_comeFault_27 : decode cX6_comeFault 27 = .ok (.bipush 30, 2) := by decide +kernel
theorem dX6_comeFault_29 : decode cX6_comeFault 29 = .ok (.if_icmp .eq 17, 3) := by decide +kernel
theorem dX6_comeFault_32 : decode cX6_comeFault 32 = .ok (.aload_n 0, 1) := by decide +kernel
theorem dX6_comeFault_33 : decode cX6_comeFault 33 = .ok (.getfield 7, 3) := by decide +kernel
theorem dX6_comeFault_36 : decode cX6_comeFault 36 = .ok (.bipush 13, 2) := by decide +kernel
theorem dX6_comeFault_38 : decode cX6_comeFault 38 = .ok (.iload_n 1, 1) := by decide +kernel
theorem dX6_comeFault_39 : decode cX6_comeFault 39 = .ok (.iadd, 1) := by decide +kernel
theorem dX6_comeFault_40 : decode cX6_comeFault 40 = .ok (.iaload, 1) := by decide +kernel
theorem dX6_comeFault_41 : decode cX6_comeFault 41 = .ok (.bipush 12, 2) := by decide +kernel
theorem dX6_comeFault_43 : decode cX6_comeFault 43 = .ok (.if_icmp .ne 7, 3) := by decide +kernel
theorem dX6_comeFault_46 : decode cX6_comeFault 46 = .ok (.iconst 3, 1) := by decide +kernel
theorem dX6_comeFault_47 : decode cX6_comeFault 47 = .ok (.goto 4, 3) := by decide +kernel
theorem dX6_comeFault_50 : decode cX6_comeFault 50 = .ok (.iconst 0, 1) := by decide +kernel
theorem dX6_comeFault_51 : decode cX6_comeFault 51 = .ok (.ireturn, 1) := by decide +kernel
set_option maxRecDepth 20000 in
theorem ggX6_comes_X6_of : GoodIn wsX6_comes wsX6_of := goodIn_r _ [5] (by decide +kernel) (by decide +kernel)
set_option maxRecDepth 20000 in
theorem gX6_comes_X6_of : GoodIn wsX6_comes (va_wsS RX6 51 yX6_of wsX6_of) := goodIn_app (goodIn_of _ (by decide +kernel)) ggX6_comes_X6_of
theorem dX6_comes_0 : decode cX6_comes 0 = .ok (.aload_n 0, 1) := by decide +kernel
theorem dX6_comes_1 : decode cX6_comes 1 = .ok (.getfield 7, 3) := by decide +kernel
theorem dX6_comes_4 : decode cX6_comes 4 = .ok (.iconst 2, 1) := by decide +kernel
theorem dX6_comes_5 : decode cX6_comes 5 = .ok (.iaload, 1) := by decide +kernel
theorem dX6_comes_6 : decode cX6_comes 6 = .ok (.istore_n 3, 1) := by decide +kernel
theorem dX6_comes_7 : decode cX6_comes 7 = .ok (.iconst 0, 1) := by decide +kernel
theorem dX6_comes_8 : decode cX6_comes 8 = .ok (.istore 4, 2) := by decide +kernel
theorem dX6_comes_10 : decode cX6_comes 10 = .ok (.iload 4, 2) := by decide +kernel
theorem dX6_comes_12 : decode cX6_comes 12 = .ok (.bipush 10, 2) := by decide +kernel
theorem dX6_comes_14 : decode cX6_comes 14 = .ok (.if_icmp .ge 21, 3) := by decide +kernel
theorem dX6_comes_17 : decode cX6_comes 17 = .ok (.aload_n 0, 1) := by decide +kernel
theorem dX6_comes_18 : decode cX6_comes 18 = .ok (.getfield 7, 3) := by decide +kernel
theorem dX6_comes_21 : decode cX6_comes 21 = .ok (.iload_n 3, 1) := by decide +kernel
theorem dX6_comes_22 : decode cX6_comes 22 = .ok (.iload 4, 2) := by decide +kernel
theorem dX6_comes_24 : decode cX6_comes 24 = .ok (.invokestatic 51, 3) := by decide +kernel
theorem dX6_comes_27 : decode cX6_comes 27 = .ok (.iconst 0, 1) := by decide +kernel
theorem dX6_comes_28 : decode cX6_comes 28 = .ok (.iastore, 1) := by decide +kernel
theorem dX6_comes_29 : decode cX6_comes 29 = .ok (.iinc 4 1, 3) := by decide +kernel
theorem dX6_comes_32 : decode cX6_comes 32 = .ok (.goto (-22), 3) := by decide +kernel
theorem dX6_comes_35 : decode cX6_comes 35 = .ok (.aload_n 0, 1) := by decide +kernel
theorem dX6_comes_36 : decode cX6_comes 36 = .ok (.getfield 7, 3) := by decide +kernel
theorem dX6_comes_39 : decode cX6_comes 39 = .ok (.iload_n 3, 1) := by decide +kernel
theorem dX6_comes_40 : decode cX6_comes 40 = .ok (.iconst 0, 1) := by decide +kernel
theorem dX6_comes_41 : decode cX6_comes 41 = .ok (.invokestatic 51, 3) := by decide +kernel
theorem dX6_comes_44 : decode cX6_comes 44 = .ok (.iload_n 2, 1) := by decide +kernel
theorem dX6_comes_45 : decode cX6_comes 45 = .ok (.iastore, 1) := by decide +kernel
theorem dX6_comes_46 : decode cX6_comes 46 = .ok (.aload_n 0, 1) := by decide +kernel
theorem dX6_comes_47 : decode cX6_comes 47 = .ok (.getfield 7, 3) := by decide +kernel
theorem dX6_comes_50 : decode cX6_comes 50 = .ok (.iload_n 3, 1) := by decide +kernel
theorem dX6_comes_51 : decode cX6_comes 51 = .ok (.iconst 1, 1) := by decide +kernel
theorem dX6_comes_52 : decode cX6_comes 52 = .ok (.invokestatic 51, 3) := by decide +kernel
theorem dX6_comes_55 : decode cX6_comes 55 = .ok (.iload_n 1, 1) := by decide +kernel
theorem dX6_comes_56 : decode cX6_comes 56 = .ok (.iastore, 1) := by decide +kernel
theorem dX6_comes_57 : decode cX6_comes 57 = .ok (.aload_n 0, 1) := by decide +kernel
theorem dX6_comes_58 : decode cX6_comes 58 = .ok (.getfield 7, 3) := by decide +kernel
theorem dX6_comes_61 : decode cX6_comes 61 = .ok (.iload_n 3, 1) := by decide +kernel
theorem dX6_comes_62 : decode cX6_comes 62 = .ok (.bipush 6, 2) := by decide +kernel
theorem dX6_comes_64 : decode cX6_comes 64 = .ok (.invokestatic 51, 3) := by decide +kernel
theorem dX6_comes_67 : decode cX6_comes 67 = .ok (.aload_n 0, 1) := by decide +kernel
theorem dX6_comes_68 : decode cX6_comes 68 = .ok (.getfield 7, 3) := by decide +kernel
theorem dX6_comes_71 : decode cX6_comes 71 = .ok (.iconst 0, 1) := by decide +kernel
theorem dX6_comes_72 : decode cX6_comes 72 = .ok (.iaload, 1) := by decide +kernel
theorem dX6_comes_73 : decode cX6_comes 73 = .ok (.iastore, 1) := by decide +kernel
theorem dX6_comes_74 : decode cX6_comes 74 = .ok (.aload_n 0, 1) := by decide +kernel
theorem dX6_comes_75 : decode cX6_comes 75 = .ok (.getfield 7, 3) := by decide +kernel
theorem dX6_comes_78 : decode cX6_comes 78 = .ok (.iload_n 3, 1) := by decide +kernel
theorem dX6_comes_79 : decode cX6_comes 79 = .ok (.bipush 8, 2) := by decide +kernel
theorem dX6_comes_81 : decode cX6_comes 81 = .ok (.invokestatic 51, 3) := by decide +kernel
theorem dX6_comes_84 : decode cX6_comes 84 = .ok (.bipush (-9), 2) := by decide +kernel
theorem dX6_comes_86 : decode cX6_comes 86 = .ok (.iastore, 1) := by decide +kernel
theorem dX6_comes_87 : decode cX6_comes 87 = .ok (.aload_n 0, 1) := by decide +kernel
theorem dX6_comes_88 : decode cX6_comes 88 = .ok (.getfield 7, 3) := by decide +kernel
theorem dX6_comes_91 : decode cX6_comes 91 = .ok (.bipush 22, 2) := by decide +kernel
theorem dX6_comes_93 : decode cX6_comes 93 = .ok (.bipush 12, 2) := by decide +kernel
theorem dX6_comes_95 : decode cX6_comes 95 = .ok (.iload_n 1, 1) := by decide +kernel
theorem dX6_comes_96 : decode cX6_comes 96 = .ok (.imul, 1) := by decide +kernel
theorem dX6_comes_97 : decode cX6_comes 97 = .ok (.iadd, 1) := by decide +kernel
theorem dX6_comes_98 : decode cX6_comes 98 = .ok (.aload_n 0, 1) := by decide +kernel
theorem dX6_comes_99 : decode cX6_comes 99 = .ok (.getfield 7, 3) := by decide +kernel
theorem dX6_comes_102 : decode cX6_comes 102 = .ok (.bipush 13, 2) := by decide +kernel
theorem dX6_comes_104 : decode cX6_comes 104 = .ok (.iload_n 1, 1) := by decide +kernel
theorem dX6_comes_105 : decode cX6_comes 105 = .ok (.iadd, 1) := by decide +kernel
theorem dX6_comes_106 : decode cX6_comes 106 = .ok (.iaload, 1) := by decide +kernel
theorem dX6_comes_107 : decode cX6_comes 107 = .ok (.iadd, 1) := by decide +kernel
theorem dX6_comes_108 : decode cX6_comes 108 = .ok (.iload_n 3, 1) := by decide +kernel
theorem dX6_comes_109 : decode cX6_comes 109 = .ok (.iastore, 1) := by decide +kernel
theorem dX6_comes_110 : decode cX6_comes 110 = .ok (.aload_n 0, 1) := by decide +kernel
theorem dX6_comes_111 : decode cX6_comes 111 = .ok (.getfield 7, 3) := by decide +kernel
theorem dX6_comes_114 : decode cX6_comes 114 = .ok (.bipush 13, 2) := by decide +kernel
theorem dX6_comes_116 : decode cX6_comes 116 = .ok (.iload_n 1, 1) := by decide +kernel
theorem dX6_comes_117 : decode cX6_comes 117 = .ok (.iadd, 1) := by decide +kernel
theorem dX6_comes_118 : decode cX6_comes 118 = .ok (.dup2, 1) := by decide +kernel
theorem dX6_comes_119 : decode cX6_comes 119 = .ok (.iaload, 1) := by decide +kernel
theorem dX6_comes_120 : decode cX6_comes 120 = .ok (.iconst 1, 1) := by decide +kernel
theorem dX6_comes_121 : decode cX6_comes 121 = .ok (.iadd, 1) := by decide +kernel
theorem dX6_comes_122 : decode cX6_comes 122 = .ok (.iastore, 1) := by decide +kernel
theorem dX6_comes_123 : decode cX6_comes 123 = .ok (.aload_n 0, 1) := by decide +kernel
theorem dX6_comes_124 : decode cX6_comes 124 = .ok (.getfield 7, 3) := by decide +kernel
theorem dX6_comes_127 : decode cX6_comes 127 = .ok (.iconst 2, 1) := by decide +kernel
theorem dX6_comes_128 : decode cX6_comes 128 = .ok (.dup2, 1) := by decide +kernel
theorem dX6_comes_129 : decode cX6_comes 129 = .ok (.iaload, 1) := by decide +kernel
theorem dX6_comes_130 : decode cX6_comes 130 = .ok (.iconst 1, 1) := by decide +kernel
theorem dX6_comes_131 : decode cX6_comes 131 = .ok (.iadd, 1) := by decide +kernel
theorem dX6_comes_132 : decode cX6_comes 132 = .ok (.iastore, 1) := by decide +kernel
theorem dX6_comes_133 : decode cX6_comes 133 = .ok (.iload_n 3, 1) := by decide +kernel
theorem dX6_comes_134 : decode cX6_comes 134 = .ok (.ireturn, 1) := by decide +kernel
set_option maxRecDepth 20000 in
theorem ggX6_leaves_X6_of : GoodIn wsX6_leaves wsX6_of := goodIn_r _ [5] (by decide +kernel) (by decide +kernel)
set_option maxRecDepth 20000 in
theorem gX6_leaves_X6_of : GoodIn wsX6_leaves (va_wsS RX6 51 yX6_of wsX6_of) := goodIn_app (goodIn_of _ (by decide +kernel)) ggX6_leaves_X6_of
theorem dX6_leaves_0 : decode cX6_leaves 0 = .ok (.aload_n 0, 1) := by decide +kernel
theorem dX6_leaves_1 : decode cX6_leaves 1 = .ok (.getfield 7, 3) := by decide +kernel
theorem dX6_leaves_4 : decode cX6_leaves 4 = .ok (.bipush 22, 2) := by decide +kernel
theorem dX6_leaves_6 : decode cX6_leaves 6 = .ok (.bipush 12, 2) := by decide +kernel
theorem dX6_leaves_8 : decode cX6_leaves 8 = .ok (.iload_n 1, 1) := by decide +kernel
theorem dX6_leaves_9 : decode cX6_leaves 9 = .ok (.imul, 1) := by decide +kernel
theorem dX6_leaves_10 : decode cX6_leaves 10 = .ok (.iadd, 1) := by decide +kernel
theorem dX6_leaves_11 : decode cX6_leaves 11 = .ok (.iload_n 2, 1) := by decide +kernel
theorem dX6_leaves_12 : decode cX6_leaves 12 = .ok (.iadd, 1) := by decide +kernel
theorem dX6_leaves_13 : decode cX6_leaves 13 = .ok (.iaload, 1) := by decide +kernel
theorem dX6_leaves_14 : decode cX6_leaves 14 = .ok (.istore 4, 2) := by decide +kernel
theorem dX6_leaves_16 : decode cX6_leaves 16 = .ok (.iload_n 2, 1) := by decide +kernel
theorem dX6_leaves_17 : decode cX6_leaves 17 = .ok (.istore 5, 2) := by decide +kernel
theorem dX6_leaves_19 : decode cX6_leaves 19 = .ok (.iload 5, 2) := by decide +kernel
theorem dX6_leaves_21 : decode cX6_leaves 21 = .ok (.iconst 1, 1) := by decide +kernel
theorem dX6_leaves_22 : decode cX6_leaves 22 = .ok (.iadd, 1) := by decide +kernel
theorem dX6_leaves_23 : decode cX6_leaves 23 = .ok (.aload_n 0, 1) := by decide +kernel
theorem dX6_leaves_24 : decode cX6_leaves 24 = .ok (.getfield 7, 3) := by decide +kernel
theorem dX6_leaves_27 : decode cX6_leaves 27 = .ok (.bipush 13, 2) := by decide +kernel
theorem dX6_leaves_29 : decode cX6_leaves 29 = .ok (.iload_n 1, 1) := by decide +kernel
theorem dX6_leaves_30 : decode cX6_leaves 30 = .ok (.iadd, 1) := by decide +kernel
theorem dX6_leaves_31 : decode cX6_leaves 31 = .ok (.iaload, 1) := by decide +kernel
theorem dX6_leaves_32 : decode cX6_leaves 32 = .ok (.if_icmp .ge 41, 3) := by decide +kernel
theorem dX6_leaves_35 : decode cX6_leaves 35 = .ok (.aload_n 0, 1) := by decide +kernel
theorem dX6_leaves_36 : decode cX6_leaves 36 = .ok (.getfield 7, 3) := by decide +kernel
theorem dX6_leaves_39 : decode cX6_leaves 39 = .ok (.bipush 22, 2) := by decide +kernel
theorem dX6_leaves_41 : decode cX6_leaves 41 = .ok (.bipush 12, 2) := by decide +kernel
theorem dX6_leaves_43 : decode cX6_leaves 43 = .ok (.iload_n 1, 1) := by decide +kernel
theorem dX6_leaves_44 : decode cX6_leaves 44 = .ok (.imul, 1) := by decide +kernel
theorem dX6_leaves_45 : decode cX6_leaves 45 = .ok (.iadd, 1) := by decide +kernel
theorem dX6_leaves_46 : decode cX6_leaves 46 = .ok (.iload 5, 2) := by decide +kernel
theorem dX6_leaves_48 : decode cX6_leaves 48 = .ok (.iadd, 1) := by decide +kernel
theorem dX6_leaves_49 : decode cX6_leaves 49 = .ok (.aload_n 0, 1) := by decide +kernel
theorem dX6_leaves_50 : decode cX6_leaves 50 = .ok (.getfield 7, 3) := by decide +kernel
theorem dX6_leaves_53 : decode cX6_leaves 53 = .ok (.bipush 22, 2) := by decide +kernel
theorem dX6_leaves_55 : decode cX6_leaves 55 = .ok (.bipush 12, 2) := by decide +kernel
theorem dX6_leaves_57 : decode cX6_leaves 57 = .ok (.iload_n 1, 1) := by decide +kernel
theorem dX6_leaves_58 : decode cX6_leaves 58 = .ok (.imul, 1) := by decide +kernel
theorem dX6_leaves_59 : decode cX6_leaves 59 = .ok (.iadd, 1) := by decide +kernel
theorem dX6_leaves_60 : decode cX6_leaves 60 = .ok (.iload 5, 2) := by decide +kernel
theorem dX6_leaves_62 : decode cX6_leaves 62 = .ok (.iadd, 1) := by decide +kernel
theorem dX6_leaves_63 : decode cX6_leaves 63 = .ok (.iconst 1, 1) := by decide +kernel
theorem dX6_leaves_64 : decode cX6_leaves 64 = .ok (.iadd, 1) := by decide +kernel
theorem dX6_leaves_65 : decode cX6_leaves 65 = .ok (.iaload, 1) := by decide +kernel
theorem dX6_leaves_66 : decode cX6_leaves 66 = .ok (.iastore, 1) := by decide +kernel
theorem dX6_leaves_67 : decode cX6_leaves 67 = .ok (.iinc 5 1, 3) := by decide +kernel
theorem dX6_leaves_70 : decode cX6_leaves 70 = .ok (.goto (-51), 3) := by decide +kernel
theorem dX6_leaves_73 : decode cX6_leaves 73 = .ok (.aload_n 0, 1) := by decide +kernel
theorem dX6_leaves_74 : decode cX6_leaves 74 = .ok (.getfield 7, 3) := by decide +kernel
theorem dX6_leaves_77 : decode cX6_leaves 77 = .ok (.bipush 13, 2) := by decide +kernel
theorem dX6_leaves_79 : decode cX6_leaves 79 = .ok (.iload_n 1, 1) := by decide +kernel
theorem dX6_leaves_80 : decode cX6_leaves 80 = .ok (.iadd, 1) := by decide +kernel
theorem dX6_leaves_81 : decode cX6_leaves 81 = .ok (.dup2, 1) := by decide +kernel
theorem dX6_leaves_82 : decode cX6_leaves 82 = .ok (.iaload, 1) := by decide +kernel
theorem dX6_leaves_83 : decode cX6_leaves 83 = .ok (.iconst 1, 1) := by decide +kernel
theorem dX6_leaves_84 : decode cX6_leaves 84 = .ok (.isub, 1) := by decide +kernel
theorem dX6_leaves_85 : decode cX6_leaves 85 = .ok (.iastore, 1) := by decide +kernel
theorem dX6_leaves_86 : decode cX6_leaves 86 = .ok (.aload_n 0, 1) := by decide +kernel
theorem dX6_leaves_87 : decode cX6_leaves 87 = .ok (.getfield 7, 3) := by decide +kernel
theorem dX6_leaves_90 : decode cX6_leaves 90 = .ok (.iload 4, 2) := by decide +kernel
theorem dX6_leaves_92 : decode cX6_leaves 92 = .ok (.iconst 1, 1) := by decide +kernel
theorem dX6_leaves_93 : decode cX6_leaves 93 = .ok (.invokestatic 51, 3) := by decide +kernel
theorem dX6_leaves_96 : decode cX6_leaves 96 = .ok (.iconst (-1), 1) := by decide +kernel
theorem dX6_leaves_97 : decode cX6_leaves 97 = .ok (.iastore, 1) := by decide +kernel
theorem dX6_leaves_98 : decode cX6_leaves 98 = .ok (.aload_n 0, 1) := by decide +kernel
theorem dX6_leaves_99 : decode cX6_leaves 99 = .ok (.getfield 7, 3) := by decide +kernel
theorem dX6_leaves_102 : decode cX6_leaves 102 = .ok (.iload 4, 2) := by decide +kernel
theorem dX6_leaves_104 : decode cX6_leaves 104 = .ok (.iconst 5, 1) := by decide +kernel
theorem dX6_leaves_105 : decode cX6_leaves 105 = .ok (.invokestatic 51, 3) := by decide +kernel
theorem dX6_leaves_108 : decode cX6_leaves 108 = .ok (.iload_n 3, 1) := by decide +kernel
theorem dX6_leaves_109 : decode cX6_leaves 109 = .ok (.iastore, 1) := by decide +kernel
theorem dX6_leaves_110 : decode cX6_leaves 110 = .ok (.return_, 1) := by decide +kernel
set_option maxRecDepth 20000 in
theorem ggX6_goFault_X6_isPerson : GoodIn wsX6_goFault wsX6_isPerson := goodIn_r _ [5, 6, 7, 8, 4, 9, 17, 18, 19, 20, 21, 22, 23, 24, 25, 26, 27, 28, 29] (by decide +kernel) (by decide +kernel)
set_option maxRecDepth 20000 in
theorem gX6_goFault_X6_isPerson : GoodIn wsX6_goFault (wsV RX6 59 RX6 yX6_isPerson wsX6_isPerson) := goodIn_app (goodIn_of _ (by decide +kernel)) ggX6_goFault_X6_isPerson
set_option maxRecDepth 20000 in
theorem ggX6_goFault_X6_isStanding : GoodIn wsX6_goFault wsX6_isStanding := goodIn_r _ [13, 6, 14, 15, 4, 16, 17, 18, 19, 20, 21, 22, 23, 24, 25, 26, 27, 28, 29] (by decide +kernel) (by decide +kernel)
set_option maxRecDepth 20000 in
theorem gX6_goFault_X6_isStanding : GoodIn wsX6_goFault (wsV RX6 62 RX6 yX6_isStanding wsX6_isStanding) := goodIn_app (goodIn_of _ (by decide +kernel)) ggX6_goFault_X6_isStanding
theorem dX6_goFault_0 : decode cX6_goFault 0 = .ok (.aload_n 0, 1) := by decide +kernel
theorem dX6_goFault_1 : decode cX6_goFault 1 = .ok (.iload_n 1, 1) := by decide +kernel
theorem dX6_goFault_2 : decode cX6_goFault 2 = .ok (.invokevirtual 59, 3) := by decide +kernel
theorem dX6_goFault_5 : decode cX6_goFault 5 = .ok (.ifCond .ne 7, 3) := by decide +kernel
theorem dX6_goFault_8 : decode cX6_goFault 8 = .ok (.iconst 1, 1) := by decide +kernel
theorem dX6_goFault_9 : decode cX6_goFault 9 = .ok (.goto 16, 3) := by decide +kernel
theorem dX6_goFault_12 : decode cX6_goFault 12 = .ok (.aload_n 0, 1) := by decide +kernel
theorem dX6_goFault_13 : decode cX6_goFault 13 = .ok (.iload_n 1, 1) := by decide +kernel
theorem dX6_goFault_14 : decode cX6_goFault 14 = .ok (.invokevirtual 62, 3) := by decide +kernel
theorem dX6_goFault_17 : decode cX6_goFault 17 = .ok (.ifCond .ne 7, 3) := by decide +kernel
theorem dX6_goFault_20 : decode cX6_goFault 20 = .ok (.iconst 2, 1) := by decide +kernel
theorem dX6_goFault_21 : decode cX6_goFault 21 = .ok (.goto 4, 3) := by decide +kernel
theorem dX6_goFault_24 : decode cX6_goFault 24 = .ok (.iconst 0, 1) := by decide +kernel
theorem dX6_goFault_25 : decode cX6_goFault 25 = .ok (.ireturn, 1) := by decide +kernel
set_option maxRecDepth 20000 in
theorem ggX6_goes_X6_of : GoodIn wsX6_goes wsX6_of := goodIn_r _ [5] (by decide +kernel) (by decide +kernel)
set_option maxRecDepth 20000 in
theorem gX6_goes_X6_of : GoodIn wsX6_goes (va_wsS RX6 51 yX6_of wsX6_of) := goodIn_app (goodIn_of _ (by decide +kernel)) ggX6_goes_X6_of
set_option maxRecDepth 20000 in
theorem ggX6_goes_X6_placeOf : GoodIn wsX6_goes wsX6_placeOf := goodIn_r _ [9, 1, 2, 3, 4, 5, 14, 15, 16, 17, 18, 19, 20, 21, 22, 23, 24, 25, 26] (by decide +kernel) (by decide +kernel)
set_option maxRecDepth 20000 in
theorem gX6_goes_X6_placeOf : GoodIn wsX6_goes (wsV RX6 65 RX6 yX6_placeOf wsX6_placeOf) := goodIn_app (goodIn_of _ (by decide +kernel)) ggX6_goes_X6_placeOf
set_option maxRecDepth 20000 in
theorem ggX6_goes_X6_leaves : GoodIn wsX6_goes wsX6_leaves := goodIn_r _ [13, 1, 2, 3, 4, 5, 14, 15, 16, 17, 18, 19, 20, 21, 22, 23, 24, 25, 26] (by decide +kernel) (by decide +kernel)
set_option maxRecDepth 20000 in
theorem gX6_goes_X6_leaves : GoodIn wsX6_goes (wsV RX6 68 RX6 yX6_leaves wsX6_leaves) := goodIn_app (goodIn_of _ (by decide +kernel)) ggX6_goes_X6_leaves
theorem dX6_goes_0 : decode cX6_goes 0 = .ok (.aload_n 0, 1) := by decide +kernel
theorem dX6_goes_1 : decode cX6_goes 1 = .ok (.aload_n 0, 1) := by decide +kernel
theorem dX6_goes_2 : decode cX6_goes 2 = .ok (.getfield 7, 3) := by decide +kernel
theorem dX6_goes_5 : decode cX6_goes 5 = .ok (.iload_n 1, 1) := by decide +kernel
theorem dX6_goes_6 : decode cX6_goes 6 = .ok (.iconst 1, 1) := by decide +kernel
theorem dX6_goes_7 : decode cX6_goes 7 = .ok (.invokestatic 51, 3) := by decide +kernel
theorem dX6_goes_10 : decode cX6_goes 10 = .ok (.iaload, 1) := by decide +kernel
theorem dX6_goes_11 : decode cX6_goes 11 = .ok (.aload_n 0, 1) := by decide +kernel
theorem dX6_goes_12 : decode cX6_goes 12 = .ok (.iload_n 1, 1) := by decide +kernel
theorem dX6_goes_13 : decode cX6_goes 13 = .ok (.invokevirtual 65, 3) := by decide +kernel
theorem dX6_goes_16 : decode cX6_goes 16 = .ok (.iconst 2, 1) := by decide +kernel
theorem dX6_goes_17 : decode cX6_goes 17 = .ok (.invokevirtual 68, 3) := by decide +kernel
theorem dX6_goes_20 : decode cX6_goes 20 = .ok (.aload_n 0, 1) := by decide +kernel
theorem dX6_goes_21 : decode cX6_goes 21 = .ok (.getfield 7, 3) := by decide +kernel
theorem dX6_goes_24 : decode cX6_goes 24 = .ok (.iload_n 1, 1) := by decide +kernel
theorem dX6_goes_25 : decode cX6_goes 25 = .ok (.iconst 2, 1) := by decide +kernel
theorem dX6_goes_26 : decode cX6_goes 26 = .ok (.invokestatic 51, 3) := by decide +kernel
theorem dX6_goes_29 : decode cX6_goes 29 = .ok (.iaload, 1) := by decide +kernel
theorem dX6_goes_30 : decode cX6_goes 30 = .ok (.ireturn, 1) := by decide +kernel
set_option maxRecDepth 20000 in
theorem ggX6_exchangeFault_X6_isPerson : GoodIn wsX6_exchangeFault wsX6_isPerson := goodIn_r _ [6, 1, 7, 8, 5, 9, 21, 22, 23, 24, 25, 26, 27, 28, 29, 30, 31, 32, 33] (by decide +kernel) (by decide +kernel)
set_option maxRecDepth 20000 in
theorem gX6_exchangeFault_X6_isPerson : GoodIn wsX6_exchangeFault (wsV RX6 59 RX6 yX6_isPerson wsX6_isPerson) := goodIn_app (goodIn_of _ (by decide +kernel)) ggX6_exchangeFault_X6_isPerson
set_option maxRecDepth 20000 in
theorem ggX6_exchangeFault_X6_isStanding : GoodIn wsX6_exchangeFault wsX6_isStanding := goodIn_r _ [13, 1, 14, 15, 5, 16, 21, 22, 23, 24, 25, 26, 27, 28, 29, 30, 31, 32, 33] (by decide +kernel) (by decide +kernel)
set_option maxRecDepth 20000 in
theorem gX6_exchangeFault_X6_isStanding : GoodIn wsX6_exchangeFault (wsV RX6 62 RX6 yX6_isStanding wsX6_isStanding) := goodIn_app (goodIn_of _ (by decide +kernel)) ggX6_exchangeFault_X6_isStanding
set_option maxRecDepth 20000 in
theorem ggX6_exchangeFault_X6_of : GoodIn wsX6_exchangeFault wsX6_of := goodIn_r _ [16] (by decide +kernel) (by decide +kernel)
set_option maxRecDepth 20000 in
theorem gX6_exchangeFault_X6_of : GoodIn wsX6_exchangeFault (va_wsS RX6 51 yX6_of wsX6_of) := goodIn_app (goodIn_of _ (by decide +kernel)) ggX6_exchangeFault_X6_of
set_option maxRecDepth 20000 in
theorem ggX6_exchangeFault_X6_placeOf : GoodIn wsX6_exchangeFault wsX6_placeOf := goodIn_r _ [20, 1, 14, 15, 5, 16, 21, 22, 23, 24, 25, 26, 27, 28, 29, 30, 31, 32, 33] (by decide +kernel) (by decide +kernel)
set_option maxRecDepth 20000 in
theorem gX6_exchangeFault_X6_placeOf : GoodIn wsX6_exchangeFault (wsV RX6 65 RX6 yX6_placeOf wsX6_placeOf) := goodIn_app (goodIn_of _ (by decide +kernel)) ggX6_exchangeFault_X6_placeOf
theorem dX6_exchangeFault_0 : decode cX6_exchangeFault 0 = .ok (.aload_n 0, 1) := by decide +kernel
theorem dX6_exchangeFault_1 : decode cX6_exchangeFault 1 = .ok (.iload_n 1, 1) := by decide +kernel
theorem dX6_exchangeFault_2 : decode cX6_exchangeFault 2 = .ok (.invokevirtual 59, 3) := by decide +kernel
theorem dX6_exchangeFault_5 : decode cX6_exchangeFault 5 = .ok (.ifCond .eq 11, 3) := by decide +kernel
theorem dX6_exchangeFault_8 : decode cX6_exchangeFault 8 = .ok (.aload_n 0, 1) := by decide +kernel
theorem dX6_exchangeFault_9 : decode cX6_exchangeFault 9 = .ok (.iload_n 2, 1) := by decide +kernel
theorem dX6_exchangeFault_10 : decode cX6_exchangeFault 10 = .ok (.invokevirtual 59, 3) := by decide +kernel
theorem dX6_exchangeFault_13 : decode cX6_exchangeFault 13 = .ok (.ifCond .ne 5, 3) := by decide +kernel
theorem dX6_exchangeFault_16 : decode cX6_exchangeFault 16 = .ok (.iconst 1, 1) := by decide +kernel
theorem dX6_exchangeFault_17 : decode cX6_exchangeFault 17 = .ok (.ireturn, 1) := by decide +kernel
theorem dX6_exchangeFault_18 : decode cX6_exchangeFault 18 = .ok (.aload_n 0, 1) := by decide +kernel
theorem dX6_exchangeFault_19 : decode cX6_exchangeFault 19 = .ok (.iload_n 1, 1) := by decide +kernel
theorem dX6_exchangeFault_20 : decode cX6_exchangeFault 20 = .ok (.invokevirtual 62, 3) := by decide +kernel
theorem dX6_exchangeFault_23 : decode cX6_exchangeFault 23 = .ok (.ifCond .eq 34, 3) := by decide +kernel
theorem dX6_exchangeFault_26 : decode cX6_exchangeFault 26 = .ok (.aload_n 0, 1) := by decide +kernel
theorem dX6_exchangeFault_27 : decode cX6_exchangeFault 27 = .ok (.iload_n 2, 1) := by decide +kernel
theorem dX6_exchangeFault_28 : decode cX6_exchangeFault 28 = .ok (.invokevirtual 62, 3) := by decide +kernel
theorem dX6_exchangeFault_31 : decode cX6_exchangeFault 31 = .ok (.ifCond .eq 26, 3) := by decide +kernel
theorem dX6_exchangeFault_34 : decode cX6_exchangeFault 34 = .ok (.aload_n 0, 1) := by decide +kernel
theorem dX6_exchangeFault_35 : decode cX6_exchangeFault 35 = .ok (.getfield 7, 3) := by decide +kernel
theorem dX6_exchangeFault_38 : decode cX6_exchangeFault 38 = .ok (.iload_n 1, 1) := by decide +kernel
theorem dX6_exchangeFault_39 : decode cX6_exchangeFault 39 = .ok (.iconst 1, 1) := by decide +kernel
theorem dX6_exchangeFault_40 : decode cX6_exchangeFault 40 = .ok (.invokestatic 51, 3) := by decide +kernel
theorem dX6_exchangeFault_43 : decode cX6_exchangeFault 43 = .ok (.iaload, 1) := by decide +kernel
theorem dX6_exchangeFault_44 : decode cX6_exchangeFault 44 = .ok (.aload_n 0, 1) := by decide +kernel
theorem dX6_exchangeFault_45 : decode cX6_exchangeFault 45 = .ok (.getfield 7, 3) := by decide +kernel
theorem dX6_exchangeFault_48 : decode cX6_exchangeFault 48 = .ok (.iload_n 2, 1) := by decide +kernel
theorem dX6_exchangeFault_49 : decode cX6_exchangeFault 49 = .ok (.iconst 1, 1) := by decide +kernel
theorem dX6_exchangeFault_50 : decode cX6_exchangeFault 50 = .ok (.invokestatic 51, 3) := by decide +kernel
theorem dX6_exchangeFault_53 : decode cX6_exchangeFault 53 = .ok (.iaload, 1) := by decide +kernel
theorem dX6_exchangeFault_54 : decode cX6_exchangeFault 54 = .ok (.if_icmp .eq 5, 3) := by decide +kernel
theorem dX6_exchangeFault_57 : decode cX6_exchangeFault 57 = .ok (.iconst 2, 1) := by decide +kernel
theorem dX6_exchangeFault_58 : decode cX6_exchangeFault 58 = .ok (.ireturn, 1) := by decide +kernel
theorem dX6_exchangeFault_59 : decode cX6_exchangeFault 59 = .ok (.aload_n 0, 1) := by decide +kernel
theorem dX6_exchangeFault_60 : decode cX6_exchangeFault 60 = .ok (.iload_n 1, 1) := by decide +kernel
theorem dX6_exchangeFault_61 : decode cX6_exchangeFault 61 = .ok (.invokevirtual 65, 3) := by decide +kernel
theorem dX6_exchangeFault_64 : decode cX6_exchangeFault 64 = .ok (.aload_n 0, 1) := by decide +kernel
theorem dX6_exchangeFault_65 : decode cX6_exchangeFault 65 = .ok (.iload_n 2, 1) := by decide +kernel
theorem dX6_exchangeFault_66 : decode cX6_exchangeFault 66 = .ok (.invokevirtual 65, 3) := by decide +kernel
theorem dX6_exchangeFault_69 : decode cX6_exchangeFault 69 = .ok (.isub, 1) := by decide +kernel
theorem dX6_exchangeFault_70 : decode cX6_exchangeFault 70 = .ok (.istore_n 3, 1) := by decide +kernel
theorem dX6_exchangeFault_71 : decode cX6_exchangeFault 71 = .ok (.iload_n 3, 1) := by decide +kernel
theorem dX6_exchangeFault_72 : decode cX6_exchangeFault 72 = .ok (.ifCond .le 37, 3) := by decide +kernel
theorem dX6_exchangeFault_75 : decode cX6_exchangeFault 75 = .ok (.aload_n 0, 1) := by decide +kernel
theorem dX6_exchangeFault_76 : decode cX6_exchangeFault 76 = .ok (.getfield 7, 3) := by decide +kernel
theorem dX6_exchangeFault_79 : decode cX6_exchangeFault 79 = .ok (.iload_n 1, 1) := by decide +kernel
theorem dX6_exchangeFault_80 : decode cX6_exchangeFault 80 = .ok (.iconst 3, 1) := by decide +kernel
theorem dX6_exchangeFault_81 : decode cX6_exchangeFault 81 = .ok (.invokestatic 51, 3) := by decide +kernel
theorem dX6_exchangeFault_84 : decode cX6_exchangeFault 84 = .ok (.iaload, 1) := by decide +kernel
theorem dX6_exchangeFault_85 : decode cX6_exchangeFault 85 = .ok (.iload_n 3, 1) := by decide +kernel
theorem dX6_exchangeFault_86 : decode cX6_exchangeFault 86 = .ok (.aload_n 0, 1) := by decide +kernel
theorem dX6_exchangeFault_87 : decode cX6_exchangeFault 87 = .ok (.getfield 7, 3) := by decide +kernel
theorem dX6_exchangeFault_90 : decode cX6_exchangeFault 90 = .ok (.bipush 8, 2) := by decide +kernel
theorem dX6_exchangeFault_92 : decode cX6_exchangeFault 92 = .ok (.iaload, 1) := by decide +kernel
theorem dX6_exchangeFault_93 : decode cX6_exchangeFault 93 = .ok (.imul, 1) := by decide +kernel
theorem dX6_exchangeFault_94 : decode cX6_exchangeFault 94 = .ok (.isub, 1) := by decide +kernel
theorem dX6_exchangeFault_95 : decode cX6_exchangeFault 95 = .ok (.aload_n 0, 1) := by decide +kernel
theorem dX6_exchangeFault_96 : decode cX6_exchangeFault 96 = .ok (.getfield 7, 3) := by decide +kernel
theorem dX6_exchangeFault_99 : decode cX6_exchangeFault 99 = .ok (.iload_n 1, 1) := by decide +kernel
theorem dX6_exchangeFault_100 : decode cX6_exchangeFault 100 = .ok (.iconst 2, 1) := by decide +kernel
theorem dX6_exchangeFault_101 : decode cX6_exchangeFault 101 = .ok (.invokestatic 51, 3) := by decide +kernel
theorem dX6_exchangeFault_104 : decode cX6_exchangeFault 104 = .ok (.iaload, 1) := by decide +kernel
theorem dX6_exchangeFault_105 : decode cX6_exchangeFault 105 = .ok (.iadd, 1) := by decide +kernel
theorem dX6_exchangeFault_106 : decode cX6_exchangeFault 106 = .ok (.ifCond .ge 7, 3) := by decide +kernel
theorem dX6_exchangeFault_109 : decode cX6_exchangeFault 109 = .ok (.iconst 2, 1) := by decide +kernel
theorem dX6_exchangeFault_110 : decode cX6_exchangeFault 110 = .ok (.goto 4, 3) := by decide +kernel
theorem dX6_exchangeFault_113 : decode cX6_exchangeFault 113 = .ok (.iconst 0, 1) := by decide +kernel
theorem dX6_exchangeFault_114 : decode cX6_exchangeFault 114 = .ok (.ireturn, 1) := by decide +kernel
set_option maxRecDepth 20000 in
theorem ggX6_exchanges_X6_of : GoodIn wsX6_exchanges wsX6_of := goodIn_r _ [5] (by decide +kernel) (by decide +kernel)
set_option maxRecDepth 20000 in
theorem gX6_exchanges_X6_of : GoodIn wsX6_exchanges (va_wsS RX6 51 yX6_of wsX6_of) := goodIn_app (goodIn_of _ (by decide +kernel)) ggX6_exchanges_X6_of
set_option maxRecDepth 20000 in
theorem ggX6_exchanges_X6_placeOf : GoodIn wsX6_exchanges wsX6_placeOf := goodIn_r _ [9, 1, 2, 3, 4, 5, 10, 11, 12, 13, 14, 15, 16, 17, 18, 19, 20, 21, 22] (by decide +kernel) (by decide +kernel)
set_option maxRecDepth 20000 in
theorem gX6_exchanges_X6_placeOf : GoodIn wsX6_exchanges (wsV RX6 65 RX6 yX6_placeOf wsX6_placeOf) := goodIn_app (goodIn_of _ (by decide +kernel)) ggX6_exchanges_X6_placeOf
theorem dX6_exchanges_0 : decode cX6_exchanges 0 = .ok (.bipush 22, 2) := by decide +kernel
theorem dX6_exchanges_2 : decode cX6_exchanges 2 = .ok (.bipush 12, 2) := by decide +kernel
theorem dX6_exchanges_4 : decode cX6_exchanges 4 = .ok (.aload_n 0, 1) := by decide +kernel
theorem dX6_exchanges_5 : decode cX6_exchanges 5 = .ok (.getfield 7, 3) := by decide +kernel
theorem dX6_exchanges_8 : decode cX6_exchanges 8 = .ok (.iload_n 1, 1) := by decide +kernel
theorem dX6_exchanges_9 : decode cX6_exchanges 9 = .ok (.iconst 1, 1) := by decide +kernel
theorem dX6_exchanges_10 : decode cX6_exchanges 10 = .ok (.invokestatic 51, 3) := by decide +kernel
theorem dX6_exchanges_13 : decode cX6_exchanges 13 = .ok (.iaload, 1) := by decide +kernel
theorem dX6_exchanges_14 : decode cX6_exchanges 14 = .ok (.imul, 1) := by decide +kernel
theorem dX6_exchanges_15 : decode cX6_exchanges 15 = .ok (.iadd, 1) := by decide +kernel
theorem dX6_exchanges_16 : decode cX6_exchanges 16 = .ok (.istore_n 3, 1) := by decide +kernel
theorem dX6_exchanges_17 : decode cX6_exchanges 17 = .ok (.aload_n 0, 1) := by decide +kernel
theorem dX6_exchanges_18 : decode cX6_exchanges 18 = .ok (.iload_n 1, 1) := by decide +kernel
theorem dX6_exchanges_19 : decode cX6_exchanges 19 = .ok (.invokevirtual 65, 3) := by decide +kernel
theorem dX6_exchanges_22 : decode cX6_exchanges 22 = .ok (.istore 4, 2) := by decide +kernel
theorem dX6_exchanges_24 : decode cX6_exchanges 24 = .ok (.aload_n 0, 1) := by decide +kernel
theorem dX6_exchanges_25 : decode cX6_exchanges 25 = .ok (.iload_n 2, 1) := by decide +kernel
theorem dX6_exchanges_26 : decode cX6_exchanges 26 = .ok (.invokevirtual 65, 3) := by decide +kernel
theorem dX6_exchanges_29 : decode cX6_exchanges 29 = .ok (.istore 5, 2) := by decide +kernel
theorem dX6_exchanges_31 : decode cX6_exchanges 31 = .ok (.iload 4, 2) := by decide +kernel
theorem dX6_exchanges_33 : decode cX6_exchanges 33 = .ok (.iload 5, 2) := by decide +kernel
theorem dX6_exchanges_35 : decode cX6_exchanges 35 = .ok (.isub, 1) := by decide +kernel
theorem dX6_exchanges_36 : decode cX6_exchanges 36 = .ok (.aload_n 0, 1) := by decide +kernel
theorem dX6_exchanges_37 : decode cX6_exchanges 37 = .ok (.getfield 7, 3) := by decide +kernel
theorem dX6_exchanges_40 : decode cX6_exchanges 40 = .ok (.bipush 8, 2) := by decide +kernel
theorem dX6_exchanges_42 : decode cX6_exchanges 42 = .ok (.iaload, 1) := by decide +kernel
theorem dX6_exchanges_43 : decode cX6_exchanges 43 = .ok (.imul, 1) := by decide +kernel
theorem dX6_exchanges_44 : decode cX6_exchanges 44 = .ok (.istore 6, 2) := by decide +kernel
theorem dX6_exchanges_46 : decode cX6_exchanges 46 = .ok (.aload_n 0, 1) := by decide +kernel
theorem dX6_exchanges_47 : decode cX6_exchanges 47 = .ok (.getfield 7, 3) := by decide +kernel
theorem dX6_exchanges_50 : decode cX6_exchanges 50 = .ok (.iload_n 3, 1) := by decide +kernel
theorem dX6_exchanges_51 : decode cX6_exchanges 51 = .ok (.iload 4, 2) := by decide +kernel
theorem dX6_exchanges_53 : decode cX6_exchanges 53 = .ok (.iadd, 1) := by decide +kernel
theorem dX6_exchanges_54 : decode cX6_exchanges 54 = .ok (.iload_n 2, 1) := by decide +kernel
theorem dX6_exchanges_55 : decode cX6_exchanges 55 = .ok (.iastore, 1) := by decide +kernel
theorem dX6_exchanges_56 : decode cX6_exchanges 56 = .ok (.aload_n 0, 1) := by decide +kernel
theorem dX6_exchanges_57 : decode cX6_exchanges 57 = .ok (.getfield 7, 3) := by decide +kernel
theorem dX6_exchanges_60 : decode cX6_exchanges 60 = .ok (.iload_n 3, 1) := by decide +kernel
theorem dX6_exchanges_61 : decode cX6_exchanges 61 = .ok (.iload 5, 2) := by decide +kernel
theorem dX6_exchanges_63 : decode cX6_exchanges 63 = .ok (.iadd, 1) := by decide +kernel
theorem dX6_exchanges_64 : decode cX6_exchanges 64 = .ok (.iload_n 1, 1) := by decide +kernel
theorem dX6_exchanges_65 : decode cX6_exchanges 65 = .ok (.iastore, 1) := by decide +kernel
theorem dX6_exchanges_66 : decode cX6_exchanges 66 = .ok (.aload_n 0, 1) := by decide +kernel
theorem dX6_exchanges_67 : decode cX6_exchanges 67 = .ok (.getfield 7, 3) := by decide +kernel
theorem dX6_exchanges_70 : decode cX6_exchanges 70 = .ok (.iload_n 1, 1) := by decide +kernel
theorem dX6_exchanges_71 : decode cX6_exchanges 71 = .ok (.iconst 3, 1) := by decide +kernel
theorem dX6_exchanges_72 : decode cX6_exchanges 72 = .ok (.invokestatic 51, 3) := by decide +kernel
theorem dX6_exchanges_75 : decode cX6_exchanges 75 = .ok (.dup2, 1) := by decide +kernel
theorem dX6_exchanges_76 : decode cX6_exchanges 76 = .ok (.iaload, 1) := by decide +kernel
theorem dX6_exchanges_77 : decode cX6_exchanges 77 = .ok (.iload 6, 2) := by decide +kernel
theorem dX6_exchanges_79 : decode cX6_exchanges 79 = .ok (.isub, 1) := by decide +kernel
theorem dX6_exchanges_80 : decode cX6_exchanges 80 = .ok (.iastore, 1) := by decide +kernel
theorem dX6_exchanges_81 : decode cX6_exchanges 81 = .ok (.aload_n 0, 1) := by decide +kernel
theorem dX6_exchanges_82 : decode cX6_exchanges 82 = .ok (.getfield 7, 3) := by decide +kernel
theorem dX6_exchanges_85 : decode cX6_exchanges 85 = .ok (.iload_n 2, 1) := by decide +kernel
theorem dX6_exchanges_86 : decode cX6_exchanges 86 = .ok (.iconst 3, 1) := by decide +kernel
theorem dX6_exchanges_87 : decode cX6_exchanges 87 = .ok (.invokestatic 51, 3) := by decide +kernel
theorem dX6_exchanges_90 : decode cX6_exchanges 90 = .ok (.dup2, 1) := by decide +kernel
theorem dX6_exchanges_91 : decode cX6_exchanges 91 = .ok (.iaload, 1) := by decide +kernel
theorem dX6_exchanges_92 : decode cX6_exchanges 92 = .ok (.iload 6, 2) := by decide +kernel
theorem dX6_exchanges_94 : decode cX6_exchanges 94 = .ok (.iadd, 1) := by decide +kernel
theorem dX6_exchanges_95 : decode cX6_exchanges 95 = .ok (.iastore, 1) := by decide +kernel
theorem dX6_exchanges_96 : decode cX6_exchanges 96 = .ok (.aload_n 0, 1) := by decide +kernel
theorem dX6_exchanges_97 : decode cX6_exchanges 97 = .ok (.getfield 7, 3) := by decide +kernel
theorem dX6_exchanges_100 : decode cX6_exchanges 100 = .ok (.iload_n 1, 1) := by decide +kernel
theorem dX6_exchanges_101 : decode cX6_exchanges 101 = .ok (.bipush 7, 2) := by decide +kernel
theorem dX6_exchanges_103 : decode cX6_exchanges 103 = .ok (.invokestatic 51, 3) := by decide +kernel
theorem dX6_exchanges_106 : decode cX6_exchanges 106 = .ok (.dup2, 1) := by decide +kernel
theorem dX6_exchanges_107 : decode cX6_exchanges 107 = .ok (.iaload, 1) := by decide +kernel
theorem dX6_exchanges_108 : decode cX6_exchanges 108 = .ok (.iload 4, 2) := by decide +kernel
theorem dX6_exchanges_110 : decode cX6_exchanges 110 = .ok (.iload 5, 2) := by decide +kernel
theorem dX6_exchanges_112 : decode cX6_exchanges 112 = .ok (.isub, 1) := by decide +kernel
theorem dX6_exchanges_113 : decode cX6_exchanges 113 = .ok (.isub, 1) := by decide +kernel
theorem dX6_exchanges_114 : decode cX6_exchanges 114 = .ok (.iastore, 1) := by decide +kernel
theorem dX6_exchanges_115 : decode cX6_exchanges 115 = .ok (.aload_n 0, 1) := by decide +kernel
theorem dX6_exchanges_116 : decode cX6_exchanges 116 = .ok (.getfield 7, 3) := by decide +kernel
theorem dX6_exchanges_119 : decode cX6_exchanges 119 = .ok (.iload_n 2, 1) := by decide +kernel
theorem dX6_exchanges_120 : decode cX6_exchanges 120 = .ok (.bipush 7, 2) := by decide +kernel
theorem dX6_exchanges_122 : decode cX6_exchanges 122 = .ok (.invokestatic 51, 3) := by decide +kernel
theorem dX6_exchanges_125 : decode cX6_exchanges 125 = .ok (.dup2, 1) := by decide +kernel
theorem dX6_exchanges_126 : decode cX6_exchanges 126 = .ok (.iaload, 1) := by decide +kernel
theorem dX6_exchanges_127 : decode cX6_exchanges 127 = .ok (.iload 4, 2) := by decide +kernel
theorem dX6_exchanges_129 : decode cX6_exchanges 129 = .ok (.iload 5, 2) := by decide +kernel
theorem dX6_exchanges_131 : decode cX6_exchanges 131 = .ok (.isub, 1) := by decide +kernel
theorem dX6_exchanges_132 : decode cX6_exchanges 132 = .ok (.iadd, 1) := by decide +kernel
theorem dX6_exchanges_133 : decode cX6_exchanges 133 = .ok (.iastore, 1) := by decide +kernel
theorem dX6_exchanges_134 : decode cX6_exchanges 134 = .ok (.aload_n 0, 1) := by decide +kernel
theorem dX6_exchanges_135 : decode cX6_exchanges 135 = .ok (.getfield 7, 3) := by decide +kernel
theorem dX6_exchanges_138 : decode cX6_exchanges 138 = .ok (.iconst 3, 1) := by decide +kernel
theorem dX6_exchanges_139 : decode cX6_exchanges 139 = .ok (.dup2, 1) := by decide +kernel
theorem dX6_exchanges_140 : decode cX6_exchanges 140 = .ok (.iaload, 1) := by decide +kernel
theorem dX6_exchanges_141 : decode cX6_exchanges 141 = .ok (.iconst 1, 1) := by decide +kernel
theorem dX6_exchanges_142 : decode cX6_exchanges 142 = .ok (.iadd, 1) := by decide +kernel
theorem dX6_exchanges_143 : decode cX6_exchanges 143 = .ok (.iastore, 1) := by decide +kernel
theorem dX6_exchanges_144 : decode cX6_exchanges 144 = .ok (.iload 6, 2) := by decide +kernel
theorem dX6_exchanges_146 : decode cX6_exchanges 146 = .ok (.ireturn, 1) := by decide +kernel
set_option maxRecDepth 20000 in
theorem ggX6_jumpFault_X6_isPerson : GoodIn wsX6_jumpFault wsX6_isPerson := goodIn_r _ [6, 1, 7, 8, 5, 9, 21, 22, 23, 24, 25, 26, 27, 28, 29, 30, 31, 32, 33] (by decide +kernel) (by decide +kernel)
set_option maxRecDepth 20000 in
theorem gX6_jumpFault_X6_isPerson : GoodIn wsX6_jumpFault (wsV RX6 59 RX6 yX6_isPerson wsX6_isPerson) := goodIn_app (goodIn_of _ (by decide +kernel)) ggX6_jumpFault_X6_isPerson
set_option maxRecDepth 20000 in
theorem ggX6_jumpFault_X6_isStanding : GoodIn wsX6_jumpFault wsX6_isStanding := goodIn_r _ [13, 1, 14, 15, 5, 16, 21, 22, 23, 24, 25, 26, 27, 28, 29, 30, 31, 32, 33] (by decide +kernel) (by decide +kernel)
set_option maxRecDepth 20000 in
theorem gX6_jumpFault_X6_isStanding : GoodIn wsX6_jumpFault (wsV RX6 62 RX6 yX6_isStanding wsX6_isStanding) := goodIn_app (goodIn_of _ (by decide +kernel)) ggX6_jumpFault_X6_isStanding
set_option maxRecDepth 20000 in
theorem ggX6_jumpFault_X6_of : GoodIn wsX6_jumpFault wsX6_of := goodIn_r _ [16] (by decide +kernel) (by decide +kernel)
set_option maxRecDepth 20000 in
theorem gX6_jumpFault_X6_of : GoodIn wsX6_jumpFault (va_wsS RX6 51 yX6_of wsX6_of) := goodIn_app (goodIn_of _ (by decide +kernel)) ggX6_jumpFault_X6_of
set_option maxRecDepth 20000 in
theorem ggX6_jumpFault_X6_placeOf : GoodIn wsX6_jumpFault wsX6_placeOf := goodIn_r _ [20, 1, 14, 15, 5, 16, 21, 22, 23, 24, 25, 26, 27, 28, 29, 30, 31, 32, 33] (by decide +kernel) (by decide +kernel)
set_option maxRecDepth 20000 in
theorem gX6_jumpFault_X6_placeOf : GoodIn wsX6_jumpFault (wsV RX6 65 RX6 yX6_placeOf wsX6_placeOf) := goodIn_app (goodIn_of _ (by decide +kernel)) ggX6_jumpFault_X6_placeOf
theorem dX6_jumpFault_0 : decode cX6_jumpFault 0 = .ok (.aload_n 0, 1) := by decide +kernel
theorem dX6_jumpFault_1 : decode cX6_jumpFault 1 = .ok (.iload_n 1, 1) := by decide +kernel
theorem dX6_jumpFault_2 : decode cX6_jumpFault 2 = .ok (.invokevirtual 59, 3) := by decide +kernel
theorem dX6_jumpFault_5 : decode cX6_jumpFault 5 = .ok (.ifCond .ne 5, 3) := by decide +kernel
theorem dX6_jumpFault_8 : decode cX6_jumpFault 8 = .ok (.iconst 1, 1) := by decide +kernel
theorem dX6_jumpFault_9 : decode cX6_jumpFault 9 = .ok (.ireturn, 1) := by decide +kernel
theorem dX6_jumpFault_10 : decode cX6_jumpFault 10 = .ok (.aload_n 0, 1) := by decide +kernel
theorem dX6_jumpFault_11 : decode cX6_jumpFault 11 = .ok (.iload_n 1, 1) := by decide +kernel
theorem dX6_jumpFault_12 : decode cX6_jumpFault 12 = .ok (.invokevirtual 62, 3) := by decide +kernel
theorem dX6_jumpFault_15 : decode cX6_jumpFault 15 = .ok (.ifCond .eq 62, 3) := by decide +kernel
theorem dX6_jumpFault_18 : decode cX6_jumpFault 18 = .ok (.aload_n 0, 1) := by decide +kernel
theorem dX6_jumpFault_19 : decode cX6_jumpFault 19 = .ok (.getfield 7, 3) := by decide +kernel
theorem dX6_jumpFault_22 : decode cX6_jumpFault 22 = .ok (.iload_n 1, 1) := by decide +kernel
theorem dX6_jumpFault_23 : decode cX6_jumpFault 23 = .ok (.iconst 0, 1) := by decide +kernel
theorem dX6_jumpFault_24 : decode cX6_jumpFault 24 = .ok (.invokestatic 51, 3) := by decide +kernel
theorem dX6_jumpFault_27 : decode cX6_jumpFault 27 = .ok (.iaload, 1) := by decide +kernel
theorem dX6_jumpFault_28 : decode cX6_jumpFault 28 = .ok (.ifCond .eq 49, 3) := by decide +kernel
theorem dX6_jumpFault_31 : decode cX6_jumpFault 31 = .ok (.aload_n 0, 1) := by decide +kernel
theorem dX6_jumpFault_32 : decode cX6_jumpFault 32 = .ok (.iload_n 1, 1) := by decide +kernel
theorem dX6_jumpFault_33 : decode cX6_jumpFault 33 = .ok (.invokevirtual 65, 3) := by decide +kernel
theorem dX6_jumpFault_36 : decode cX6_jumpFault 36 = .ok (.ifCond .eq 41, 3) := by decide +kernel
theorem dX6_jumpFault_39 : decode cX6_jumpFault 39 = .ok (.aload_n 0, 1) := by decide +kernel
theorem dX6_jumpFault_40 : decode cX6_jumpFault 40 = .ok (.getfield 7, 3) := by decide +kernel
theorem dX6_jumpFault_43 : decode cX6_jumpFault 43 = .ok (.iconst 0, 1) := by decide +kernel
theorem dX6_jumpFault_44 : decode cX6_jumpFault 44 = .ok (.iaload, 1) := by decide +kernel
theorem dX6_jumpFault_45 : decode cX6_jumpFault 45 = .ok (.aload_n 0, 1) := by decide +kernel
theorem dX6_jumpFault_46 : decode cX6_jumpFault 46 = .ok (.getfield 7, 3) := by decide +kernel
theorem dX6_jumpFault_49 : decode cX6_jumpFault 49 = .ok (.iload_n 1, 1) := by decide +kernel
theorem dX6_jumpFault_50 : decode cX6_jumpFault 50 = .ok (.bipush 8, 2) := by decide +kernel
theorem dX6_jumpFault_52 : decode cX6_jumpFault 52 = .ok (.invokestatic 51, 3) := by decide +kernel
theorem dX6_jumpFault_55 : decode cX6_jumpFault 55 = .ok (.iaload, 1) := by decide +kernel
theorem dX6_jumpFault_56 : decode cX6_jumpFault 56 = .ok (.isub, 1) := by decide +kernel
theorem dX6_jumpFault_57 : decode cX6_jumpFault 57 = .ok (.iconst 5, 1) := by decide +kernel
theorem dX6_jumpFault_58 : decode cX6_jumpFault 58 = .ok (.if_icmp .ge 23, 3) := by decide +kernel
theorem dX6_jumpFault_61 : decode cX6_jumpFault 61 = .ok (.aload_n 0, 1) := by decide +kernel
theorem dX6_jumpFault_62 : decode cX6_jumpFault 62 = .ok (.getfield 7, 3) := by decide +kernel
theorem dX6_jumpFault_65 : decode cX6_jumpFault 65 = .ok (.iload_n 1, 1) := by decide +kernel
theorem dX6_jumpFault_66 : decode cX6_jumpFault 66 = .ok (.bipush 8, 2) := by decide +kernel
theorem dX6_jumpFault_68 : decode cX6_jumpFault 68 = .ok (.invokestatic 51, 3) := by decide +kernel
theorem dX6_jumpFault_71 : decode cX6_jumpFault 71 = .ok (.iaload, 1) := by decide +kernel
theorem dX6_jumpFault_72 : decode cX6_jumpFault 72 = .ok (.bipush (-9), 2) := by decide +kernel
theorem dX6_jumpFault_74 : decode cX6_jumpFault 74 = .ok (.if_icmp .eq 7, 3) := by decide +kernel
theorem dX6_jumpFault_77 : decode cX6_jumpFault 77 = .ok (.iconst 2, 1) := by decide +kernel
theorem dX6_jumpFault_78 : decode cX6_jumpFault 78 = .ok (.goto 4, 3) := by decide +kernel
theorem dX6_jumpFault_81 : decode cX6_jumpFault 81 = .ok (.iconst 0, 1) := by decide +kernel
theorem dX6_jumpFault_82 : decode cX6_jumpFault 82 = .ok (.ireturn, 1) := by decide +kernel
set_option maxRecDepth 20000 in
theorem ggX6_jumps_X6_of : GoodIn wsX6_jumps wsX6_of := goodIn_r _ [5] (by decide +kernel) (by decide +kernel)
set_option maxRecDepth 20000 in
theorem gX6_jumps_X6_of : GoodIn wsX6_jumps (va_wsS RX6 51 yX6_of wsX6_of) := goodIn_app (goodIn_of _ (by decide +kernel)) ggX6_jumps_X6_of
set_option maxRecDepth 20000 in
theorem ggX6_jumps_X6_placeOf : GoodIn wsX6_jumps wsX6_placeOf := goodIn_r _ [9, 1, 2, 3, 4, 5, 10, 11, 12, 13, 14, 15, 16, 17, 18, 19, 20, 21, 22] (by decide +kernel) (by decide +kernel)
set_option maxRecDepth 20000 in
theorem gX6_jumps_X6_placeOf : GoodIn wsX6_jumps (wsV RX6 65 RX6 yX6_placeOf wsX6_placeOf) := goodIn_app (goodIn_of _ (by decide +kernel)) ggX6_jumps_X6_placeOf
theorem dX6_jumps_0 : decode cX6_jumps 0 = .ok (.bipush 22, 2) := by decide +kernel
theorem dX6_jumps_2 : decode cX6_jumps 2 = .ok (.bipush 12, 2) := by decide +kernel
theorem dX6_jumps_4 : decode cX6_jumps 4 = .ok (.aload_n 0, 1) := by decide +kernel
theorem dX6_jumps_5 : decode cX6_jumps 5 = .ok (.getfield 7, 3) := by decide +kernel
theorem dX6_jumps_8 : decode cX6_jumps 8 = .ok (.iload_n 1, 1) := by decide +kernel
theorem dX6_jumps_9 : decode cX6_jumps 9 = .ok (.iconst 1, 1) := by decide +kernel
theorem dX6_jumps_10 : decode cX6_jumps 10 = .ok (.invokestatic 51, 3) := by decide +kernel
theorem dX6_jumps_13 : decode cX6_jumps 13 = .ok (.iaload, 1) := by decide +kernel
theorem dX6_jumps_14 : decode cX6_jumps 14 = .ok (.imul, 1) := by decide +kernel
theorem dX6_jumps_15 : decode cX6_jumps 15 = .ok (.iadd, 1) := by decide +kernel
theorem dX6_jumps_16 : decode cX6_jumps 16 = .ok (.istore_n 2, 1) := by decide +kernel
theorem dX6_jumps_17 : decode cX6_jumps 17 = .ok (.aload_n 0, 1) := by decide +kernel
theorem dX6_jumps_18 : decode cX6_jumps 18 = .ok (.iload_n 1, 1) := by decide +kernel
theorem dX6_jumps_19 : decode cX6_jumps 19 = .ok (.invokevirtual 65, 3) := by decide +kernel
theorem dX6_jumps_22 : decode cX6_jumps 22 = .ok (.istore_n 3, 1) := by decide +kernel
theorem dX6_jumps_23 : decode cX6_jumps 23 = .ok (.iload_n 3, 1) := by decide +kernel
theorem dX6_jumps_24 : decode cX6_jumps 24 = .ok (.aload_n 0, 1) := by decide +kernel
theorem dX6_jumps_25 : decode cX6_jumps 25 = .ok (.getfield 7, 3) := by decide +kernel
theorem dX6_jumps_28 : decode cX6_jumps 28 = .ok (.bipush 9, 2) := by decide +kernel
theorem dX6_jumps_30 : decode cX6_jumps 30 = .ok (.iaload, 1) := by decide +kernel
theorem dX6_jumps_31 : decode cX6_jumps 31 = .ok (.if_icmp .ge 7, 3) := by decide +kernel
theorem dX6_jumps_34 : decode cX6_jumps 34 = .ok (.iload_n 3, 1) := by decide +kernel
theorem dX6_jumps_35 : decode cX6_jumps 35 = .ok (.goto 10, 3) := by decide +kernel
theorem dX6_jumps_38 : decode cX6_jumps 38 = .ok (.aload_n 0, 1) := by decide +kernel
theorem dX6_jumps_39 : decode cX6_jumps 39 = .ok (.getfield 7, 3) := by decide +kernel
theorem dX6_jumps_42 : decode cX6_jumps 42 = .ok (.bipush 9, 2) := by decide +kernel
theorem dX6_jumps_44 : decode cX6_jumps 44 = .ok (.iaload, 1) := by decide +kernel
theorem dX6_jumps_45 : decode cX6_jumps 45 = .ok (.istore 4, 2) := by decide +kernel
theorem dX6_jumps_47 : decode cX6_jumps 47 = .ok (.iconst 0, 1) := by decide +kernel
theorem dX6_jumps_48 : decode cX6_jumps 48 = .ok (.istore 5, 2) := by decide +kernel
theorem dX6_jumps_50 : decode cX6_jumps 50 = .ok (.iload 5, 2) := by decide +kernel
theorem dX6_jumps_52 : decode cX6_jumps 52 = .ok (.iload 4, 2) := by decide +kernel
theorem dX6_jumps_54 : decode cX6_jumps 54 = .ok (.if_icmp .ge 148, 3) := by decide +kernel
theorem dX6_jumps_57 : decode cX6_jumps 57 = .ok (.aload_n 0, 1) := by decide +kernel
theorem dX6_jumps_58 : decode cX6_jumps 58 = .ok (.getfield 7, 3) := by decide +kernel
theorem dX6_jumps_61 : decode cX6_jumps 61 = .ok (.iload_n 2, 1) := by decide +kernel
theorem dX6_jumps_62 : decode cX6_jumps 62 = .ok (.iload_n 3, 1) := by decide +kernel
theorem dX6_jumps_63 : decode cX6_jumps 63 = .ok (.iadd, 1) := by decide +kernel
theorem dX6_jumps_64 : decode cX6_jumps 64 = .ok (.iload 5, 2) := by decide +kernel
theorem dX6_jumps_66 : decode cX6_jumps 66 = .ok (.isub, 1) := by decide +kernel
theorem dX6_jumps_67 : decode cX6_jumps 67 = .ok (.iconst 1, 1) := by decide +kernel
theorem dX6_jumps_68 : decode cX6_jumps 68 = .ok (.isub, 1) := by decide +kernel
theorem dX6_jumps_69 : decode cX6_jumps 69 = .ok (.iaload, 1) := by decide +kernel
theorem dX6_jumps_70 : decode cX6_jumps 70 = .ok (.istore 6, 2) := by decide +kernel
theorem dX6_jumps_72 : decode cX6_jumps 72 = .ok (.aload_n 0, 1) := by decide +kernel
theorem dX6_jumps_73 : decode cX6_jumps 73 = .ok (.getfield 7, 3) := by decide +kernel
theorem dX6_jumps_76 : decode cX6_jumps 76 = .ok (.iload_n 2, 1) := by decide +kernel
theorem dX6_jumps_77 : decode cX6_jumps 77 = .ok (.iload_n 3, 1) := by decide +kernel
theorem dX6_jumps_78 : decode cX6_jumps 78 = .ok (.iadd, 1) := by decide +kernel
theorem dX6_jumps_79 : decode cX6_jumps 79 = .ok (.iload 5, 2) := by decide +kernel
theorem dX6_jumps_81 : decode cX6_jumps 81 = .ok (.isub, 1) := by decide +kernel
theorem dX6_jumps_82 : decode cX6_jumps 82 = .ok (.iload 6, 2) := by decide +kernel
theorem dX6_jumps_84 : decode cX6_jumps 84 = .ok (.iastore, 1) := by decide +kernel
theorem dX6_jumps_85 : decode cX6_jumps 85 = .ok (.aload_n 0, 1) := by decide +kernel
theorem dX6_jumps_86 : decode cX6_jumps 86 = .ok (.getfield 7, 3) := by decide +kernel
theorem dX6_jumps_89 : decode cX6_jumps 89 = .ok (.iload 6, 2) := by decide +kernel
theorem dX6_jumps_91 : decode cX6_jumps 91 = .ok (.iconst 3, 1) := by decide +kernel
theorem dX6_jumps_92 : decode cX6_jumps 92 = .ok (.invokestatic 51, 3) := by decide +kernel
theorem dX6_jumps_95 : decode cX6_jumps 95 = .ok (.dup2, 1) := by decide +kernel
theorem dX6_jumps_96 : decode cX6_jumps 96 = .ok (.iaload, 1) := by decide +kernel
theorem dX6_jumps_97 : decode cX6_jumps 97 = .ok (.aload_n 0, 1) := by decide +kernel
theorem dX6_jumps_98 : decode cX6_jumps 98 = .ok (.getfield 7, 3) := by decide +kernel
theorem dX6_jumps_101 : decode cX6_jumps 101 = .ok (.bipush 8, 2) := by decide +kernel
theorem dX6_jumps_103 : decode cX6_jumps 103 = .ok (.iaload, 1) := by decide +kernel
theorem dX6_jumps_104 : decode cX6_jumps 104 = .ok (.iadd, 1) := by decide +kernel
theorem dX6_jumps_105 : decode cX6_jumps 105 = .ok (.iastore, 1) := by decide +kernel
theorem dX6_jumps_106 : decode cX6_jumps 106 = .ok (.aload_n 0, 1) := by decide +kernel
theorem dX6_jumps_107 : decode cX6_jumps 107 = .ok (.getfield 7, 3) := by decide +kernel
theorem dX6_jumps_110 : decode cX6_jumps 110 = .ok (.iload 6, 2) := by decide +kernel
theorem dX6_jumps_112 : decode cX6_jumps 112 = .ok (.bipush 7, 2) := by decide +kernel
theorem dX6_jumps_114 : decode cX6_jumps 114 = .ok (.invokestatic 51, 3) := by decide +kernel
theorem dX6_jumps_117 : decode cX6_jumps 117 = .ok (.dup2, 1) := by decide +kernel
theorem dX6_jumps_118 : decode cX6_jumps 118 = .ok (.iaload, 1) := by decide +kernel
theorem dX6_jumps_119 : decode cX6_jumps 119 = .ok (.iconst 1, 1) := by decide +kernel
theorem dX6_jumps_120 : decode cX6_jumps 120 = .ok (.iadd, 1) := by decide +kernel
theorem dX6_jumps_121 : decode cX6_jumps 121 = .ok (.iastore, 1) := by decide +kernel
theorem dX6_jumps_122 : decode cX6_jumps 122 = .ok (.aload_n 0, 1) := by decide +kernel
theorem dX6_jumps_123 : decode cX6_jumps 123 = .ok (.getfield 7, 3) := by decide +kernel
theorem dX6_jumps_126 : decode cX6_jumps 126 = .ok (.iload_n 1, 1) := by decide +kernel
theorem dX6_jumps_127 : decode cX6_jumps 127 = .ok (.iconst 0, 1) := by decide +kernel
theorem dX6_jumps_128 : decode cX6_jumps 128 = .ok (.invokestatic 51, 3) := by decide +kernel
theorem dX6_jumps_131 : decode cX6_jumps 131 = .ok (.iaload, 1) := by decide +kernel
theorem dX6_jumps_132 : decode cX6_jumps 132 = .ok (.iconst 1, 1) := by decide +kernel
theorem dX6_jumps_133 : decode cX6_jumps 133 = .ok (.if_icmp .ne 43, 3) := by decide +kernel
theorem dX6_jumps_136 : decode cX6_jumps 136 = .ok (.aload_n 0, 1) := by decide +kernel
theorem dX6_jumps_137 : decode cX6_jumps 137 = .ok (.getfield 7, 3) := by decide +kernel
theorem dX6_jumps_140 : decode cX6_jumps 140 = .ok (.iload 6, 2) := by decide +kernel
theorem dX6_jumps_142 : decode cX6_jumps 142 = .ok (.iconst 4, 1) := by decide +kernel
theorem dX6_jumps_143 : decode cX6_jumps 143 = .ok (.invokestatic 51, 3) := by decide +kernel
theorem dX6_jumps_146 : decode cX6_jumps 146 = .ok (.dup2, 1) := by decide +kernel
theorem dX6_jumps_147 : decode cX6_jumps 147 = .ok (.iaload, 1) := by decide +kernel
theorem dX6_jumps_148 : decode cX6_jumps 148 = .ok (.aload_n 0, 1) := by decide +kernel
theorem dX6_jumps_149 : decode cX6_jumps 149 = .ok (.getfield 7, 3) := by decide +kernel
theorem dX6_jumps_152 : decode cX6_jumps 152 = .ok (.bipush 8, 2) := by decide +kernel
theorem dX6_jumps_154 : decode cX6_jumps 154 = .ok (.iaload, 1) := by decide +kernel
theorem dX6_jumps_155 : decode cX6_jumps 155 = .ok (.iadd, 1) := by decide +kernel
theorem dX6_jumps_156 : decode cX6_jumps 156 = .ok (.iastore, 1) := by decide +kernel
theorem dX6_jumps_157 : decode cX6_jumps 157 = .ok (.aload_n 0, 1) := by decide +kernel
theorem dX6_jumps_158 : decode cX6_jumps 158 = .ok (.getfield 7, 3) := by decide +kernel
theorem dX6_jumps_161 : decode cX6_jumps 161 = .ok (.iconst 5, 1) := by decide +kernel
theorem dX6_jumps_162 : decode cX6_jumps 162 = .ok (.dup2, 1) := by decide +kernel
theorem dX6_jumps_163 : decode cX6_jumps 163 = .ok (.iaload, 1) := by decide +kernel
theorem dX6_jumps_164 : decode cX6_jumps 164 = .ok (.aload_n 0, 1) := by decide +kernel
theorem dX6_jumps_165 : decode cX6_jumps 165 = .ok (.getfield 7, 3) := by decide +kernel
theorem dX6_jumps_168 : decode cX6_jumps 168 = .ok (.bipush 8, 2) := by decide +kernel
theorem dX6_jumps_170 : decode cX6_jumps 170 = .ok (.iaload, 1) := by decide +kernel
theorem dX6_jumps_171 : decode cX6_jumps 171 = .ok (.iadd, 1) := by decide +kernel
theorem dX6_jumps_172 : decode cX6_jumps 172 = .ok (.iastore, 1) := by decide +kernel
theorem dX6_jumps_173 : decode cX6_jumps 173 = .ok (.goto 23, 3) := by decide +kernel
theorem dX6_jumps_176 : decode cX6_jumps 176 = .ok (.aload_n 0, 1) := by decide +kernel
theorem dX6_jumps_177 : decode cX6_jumps 177 = .ok (.getfield 7, 3) := by decide +kernel
theorem dX6_jumps_180 : decode cX6_jumps 180 = .ok (.iload_n 1, 1) := by decide +kernel
theorem dX6_jumps_181 : decode cX6_jumps 181 = .ok (.iconst 3, 1) := by decide +kernel
theorem dX6_jumps_182 : decode cX6_jumps 182 = .ok (.invokestatic 51, 3) := by decide +kernel
theorem dX6_jumps_185 : decode cX6_jumps 185 = .ok (.dup2, 1) := by decide +kernel
theorem dX6_jumps_186 : decode cX6_jumps 186 = .ok (.iaload, 1) := by decide +kernel
theorem dX6_jumps_187 : decode cX6_jumps 187 = .ok (.aload_n 0, 1) := by decide +kernel
theorem dX6_jumps_188 : decode cX6_jumps 188 = .ok (.getfield 7, 3) := by decide +kernel
theorem dX6_jumps_191 : decode cX6_jumps 191 = .ok (.bipush 8, 2) := by decide +kernel
theorem dX6_jumps_193 : decode cX6_jumps 193 = .ok (.iaload, 1) := by decide +kernel
theorem dX6_jumps_194 : decode cX6_jumps 194 = .ok (.isub, 1) := by decide +kernel
theorem dX6_jumps_195 : decode cX6_jumps 195 = .ok (.iastore, 1) := by decide +kernel
theorem dX6_jumps_196 : decode cX6_jumps 196 = .ok (.iinc 5 1, 3) := by decide +kernel
theorem dX6_jumps_199 : decode cX6_jumps 199 = .ok (.goto (-149), 3) := by decide +kernel
theorem dX6_jumps_202 : decode cX6_jumps 202 = .ok (.aload_n 0, 1) := by decide +kernel
theorem dX6_jumps_203 : decode cX6_jumps 203 = .ok (.getfield 7, 3) := by decide +kernel
theorem dX6_jumps_206 : decode cX6_jumps 206 = .ok (.iload_n 2, 1) := by decide +kernel
theorem dX6_jumps_207 : decode cX6_jumps 207 = .ok (.iload_n 3, 1) := by decide +kernel
theorem dX6_jumps_208 : decode cX6_jumps 208 = .ok (.iadd, 1) := by decide +kernel
theorem dX6_jumps_209 : decode cX6_jumps 209 = .ok (.iload 4, 2) := by decide +kernel
theorem dX6_jumps_211 : decode cX6_jumps 211 = .ok (.isub, 1) := by decide +kernel
theorem dX6_jumps_212 : decode cX6_jumps 212 = .ok (.iload_n 1, 1) := by decide +kernel
theorem dX6_jumps_213 : decode cX6_jumps 213 = .ok (.iastore, 1) := by decide +kernel
theorem dX6_jumps_214 : decode cX6_jumps 214 = .ok (.aload_n 0, 1) := by decide +kernel
theorem dX6_jumps_215 : decode cX6_jumps 215 = .ok (.getfield 7, 3) := by decide +kernel
theorem dX6_jumps_218 : decode cX6_jumps 218 = .ok (.iload_n 1, 1) := by decide +kernel
theorem dX6_jumps_219 : decode cX6_jumps 219 = .ok (.bipush 7, 2) := by decide +kernel
theorem dX6_jumps_221 : decode cX6_jumps 221 = .ok (.invokestatic 51, 3) := by decide +kernel
theorem dX6_jumps_224 : decode cX6_jumps 224 = .ok (.dup2, 1) := by decide +kernel
theorem dX6_jumps_225 : decode cX6_jumps 225 = .ok (.iaload, 1) := by decide +kernel
theorem dX6_jumps_226 : decode cX6_jumps 226 = .ok (.iload 4, 2) := by decide +kernel
theorem dX6_jumps_228 : decode cX6_jumps 228 = .ok (.isub, 1) := by decide +kernel
theorem dX6_jumps_229 : decode cX6_jumps 229 = .ok (.iastore, 1) := by decide +kernel
theorem dX6_jumps_230 : decode cX6_jumps 230 = .ok (.aload_n 0, 1) := by decide +kernel
theorem dX6_jumps_231 : decode cX6_jumps 231 = .ok (.getfield 7, 3) := by decide +kernel
theorem dX6_jumps_234 : decode cX6_jumps 234 = .ok (.iload_n 1, 1) := by decide +kernel
theorem dX6_jumps_235 : decode cX6_jumps 235 = .ok (.bipush 8, 2) := by decide +kernel
theorem dX6_jumps_237 : decode cX6_jumps 237 = .ok (.invokestatic 51, 3) := by decide +kernel
theorem dX6_jumps_240 : decode cX6_jumps 240 = .ok (.aload_n 0, 1) := by decide +kernel
theorem dX6_jumps_241 : decode cX6_jumps 241 = .ok (.getfield 7, 3) := by decide +kernel
theorem dX6_jumps_244 : decode cX6_jumps 244 = .ok (.iconst 0, 1) := by decide +kernel
theorem dX6_jumps_245 : decode cX6_jumps 245 = .ok (.iaload, 1) := by decide +kernel
theorem dX6_jumps_246 : decode cX6_jumps 246 = .ok (.iastore, 1) := by decide +kernel
theorem dX6_jumps_247 : decode cX6_jumps 247 = .ok (.aload_n 0, 1) := by decide +kernel
theorem dX6_jumps_248 : decode cX6_jumps 248 = .ok (.getfield 7, 3) := by decide +kernel
theorem dX6_jumps_251 : decode cX6_jumps 251 = .ok (.iconst 4, 1) := by decide +kernel
theorem dX6_jumps_252 : decode cX6_jumps 252 = .ok (.dup2, 1) := by decide +kernel
theorem dX6_jumps_253 : decode cX6_jumps 253 = .ok (.iaload, 1) := by decide +kernel
theorem dX6_jumps_254 : decode cX6_jumps 254 = .ok (.iconst 1, 1) := by decide +kernel
theorem dX6_jumps_255 : decode cX6_jumps 255 = .ok (.iadd, 1) := by decide +kernel
theorem dX6_jumps_256 : decode cX6_jumps 256 = .ok (.iastore, 1) := by decide +kernel
theorem dX6_jumps_257 : decode cX6_jumps 257 = .ok (.iload 4, 2) := by decide +kernel
theorem dX6_jumps_259 : decode cX6_jumps 259 = .ok (.ireturn, 1) := by decide +kernel
set_option maxRecDepth 20000 in
theorem ggX6_mergeFault_X6_isLine : GoodIn wsX6_mergeFault wsX6_isLine := goodIn_r _ [6, 1, 7, 8, 5, 9, 10, 11, 12, 13, 14, 15, 16, 17, 18, 19, 20, 21, 22] (by decide +kernel) (by decide +kernel)
set_option maxRecDepth 20000 in
theorem gX6_mergeFault_X6_isLine : GoodIn wsX6_mergeFault (wsV RX6 55 RX6 yX6_isLine wsX6_isLine) := goodIn_app (goodIn_of _ (by decide +kernel)) ggX6_mergeFault_X6_isLine
theorem dX6_mergeFault_0 : decode cX6_mergeFault 0 = .ok (.aload_n 0, 1) := by decide +kernel
theorem dX6_mergeFault_1 : decode cX6_mergeFault 1 = .ok (.iload_n 1, 1) := by decide +kernel
theorem dX6_mergeFault_2 : decode cX6_mergeFault 2 = .ok (.invokevirtual 55, 3) := by decide +kernel
theorem dX6_mergeFault_5 : decode cX6_mergeFault 5 = .ok (.ifCond .eq 11, 3) := by decide +kernel
theorem dX6_mergeFault_8 : decode cX6_mergeFault 8 = .ok (.aload_n 0, 1) := by decide +kernel
theorem dX6_mergeFault_9 : decode cX6_mergeFault 9 = .ok (.iload_n 2, 1) := by decide +kernel
theorem dX6_mergeFault_10 : decode cX6_mergeFault 10 = .ok (.invokevirtual 55, 3) := by decide +kernel
theorem dX6_mergeFault_13 : decode cX6_mergeFault 13 = .ok (.ifCond .ne 5, 3) := by decide +kernel
theorem dX6_mergeFault_16 : decode cX6_mergeFault 16 = .ok (.iconst 1, 1) := by decide +kernel
theorem dX6_mergeFault_17 : decode cX6_mergeFault 17 = .ok (.ireturn, 1) := by decide +kernel
theorem dX6_mergeFault_18 : decode cX6_mergeFault 18 = .ok (.iload_n 1, 1) := by decide +kernel
theorem dX6_mergeFault_19 : decode cX6_mergeFault 19 = .ok (.iload_n 2, 1) := by decide +kernel
theorem dX6_mergeFault_20 : decode cX6_mergeFault 20 = .ok (.if_icmp .ne 7, 3) := by decide +kernel
theorem dX6_mergeFault_23 : decode cX6_mergeFault 23 = .ok (.iconst 2, 1) := by decide +kernel
theorem dX6_mergeFault_24 : decode cX6_mergeFault 24 = .ok (.goto 32, 3) := by decide +kernel
theorem dX6_mergeFault_27 : decode cX6_mergeFault 27 = .ok (.aload_n 0, 1) := by decide +kernel
theorem dX6_mergeFault_28 : decode cX6_mergeFault 28 = .ok (.getfield 7, 3) := by decide +kernel
theorem dX6_mergeFault_31 : decode cX6_mergeFault 31 = .ok (.bipush 13, 2) := by decide +kernel
theorem dX6_mergeFault_33 : decode cX6_mergeFault 33 = .ok (.iload_n 1, 1) := by decide +kernel
theorem dX6_mergeFault_34 : decode cX6_mergeFault 34 = .ok (.iadd, 1) := by decide +kernel
theorem dX6_mergeFault_35 : decode cX6_mergeFault 35 = .ok (.iaload, 1) := by decide +kernel
theorem dX6_mergeFault_36 : decode cX6_mergeFault 36 = .ok (.aload_n 0, 1) := by decide +kernel
theorem dX6_mergeFault_37 : decode cX6_mergeFault 37 = .ok (.getfield 7, 3) := by decide +kernel
theorem dX6_mergeFault_40 : decode cX6_mergeFault 40 = .ok (.bipush 13, 2) := by decide +kernel
theorem dX6_mergeFault_42 : decode cX6_mergeFault 42 = .ok (.iload_n 2, 1) := by decide +kernel
theorem dX6_mergeFault_43 : decode cX6_mergeFault 43 = .ok (.iadd, 1) := by decide +kernel
theorem dX6_mergeFault_44 : decode cX6_mergeFault 44 = .ok (.iaload, 1) := by decide +kernel
theorem dX6_mergeFault_45 : decode cX6_mergeFault 45 = .ok (.iadd, 1) := by decide +kernel
theorem dX6_mergeFault_46 : decode cX6_mergeFault 46 = .ok (.bipush 12, 2) := by decide +kernel
theorem dX6_mergeFault_48 : decode cX6_mergeFault 48 = .ok (.if_icmp .le 7, 3) := by decide +kernel
theorem dX6_mergeFault_51 : decode cX6_mergeFault 51 = .ok (.iconst 3, 1) := by decide +kernel
theorem dX6_mergeFault_52 : decode cX6_mergeFault 52 = .ok (.goto 4, 3) := by decide +kernel
theorem dX6_mergeFault_55 : decode cX6_mergeFault 55 = .ok (.iconst 0, 1) := by decide +kernel
theorem dX6_mergeFault_56 : decode cX6_mergeFault 56 = .ok (.ireturn, 1) := by decide +kernel
set_option maxRecDepth 20000 in
theorem ggX6_isAhead_X6_of : GoodIn wsX6_isAhead wsX6_of := goodIn_r _ [5] (by decide +kernel) (by decide +kernel)
set_option maxRecDepth 20000 in
theorem gX6_isAhead_X6_of : GoodIn wsX6_isAhead (va_wsS RX6 51 yX6_of wsX6_of) := goodIn_app (goodIn_of _ (by decide +kernel)) ggX6_isAhead_X6_of
theorem dX6_isAhead_0 : decode cX6_isAhead 0 = .ok (.aload_n 0, 1) := by decide +kernel
theorem dX6_isAhead_1 : decode cX6_isAhead 1 = .ok (.getfield 7, 3) := by decide +kernel
theorem dX6_isAhead_4 : decode cX6_isAhead 4 = .ok (.iload_n 1, 1) := by decide +kernel
theorem dX6_isAhead_5 : decode cX6_isAhead 5 = .ok (.iconst 2, 1) := by decide +kernel
theorem dX6_isAhead_6 : decode cX6_isAhead 6 = .ok (.invokestatic 51, 3) := by decide +kernel
theorem dX6_isAhead_9 : decode cX6_isAhead 9 = .ok (.iaload, 1) := by decide +kernel
theorem dX6_isAhead_10 : decode cX6_isAhead 10 = .ok (.aload_n 0, 1) := by decide +kernel
theorem dX6_isAhead_11 : decode cX6_isAhead 11 = .ok (.getfield 7, 3) := by decide +kernel
theorem dX6_isAhead_14 : decode cX6_isAhead 14 = .ok (.iload_n 2, 1) := by decide +kernel
theorem dX6_isAhead_15 : decode cX6_isAhead 15 = .ok (.iconst 2, 1) := by decide +kernel
theorem dX6_isAhead_16 : decode cX6_isAhead 16 = .ok (.invokestatic 51, 3) := by decide +kernel
theorem dX6_isAhead_19 : decode cX6_isAhead 19 = .ok (.iaload, 1) := by decide +kernel
theorem dX6_isAhead_20 : decode cX6_isAhead 20 = .ok (.isub, 1) := by decide +kernel
theorem dX6_isAhead_21 : decode cX6_isAhead 21 = .ok (.istore_n 3, 1) := by decide +kernel
theorem dX6_isAhead_22 : decode cX6_isAhead 22 = .ok (.iload_n 3, 1) := by decide +kernel
theorem dX6_isAhead_23 : decode cX6_isAhead 23 = .ok (.ifCond .gt 12, 3) := by decide +kernel
theorem dX6_isAhead_26 : decode cX6_isAhead 26 = .ok (.iload_n 3, 1) := by decide +kernel
theorem dX6_isAhead_27 : decode cX6_isAhead 27 = .ok (.ifCond .ne 12, 3) := by decide +kernel
theorem dX6_isAhead_30 : decode cX6_isAhead 30 = .ok (.iload_n 1, 1) := by decide +kernel
theorem dX6_isAhead_31 : decode cX6_isAhead 31 = .ok (.iload_n 2, 1) := by decide +kernel
theorem dX6_isAhead_32 : decode cX6_isAhead 32 = .ok (.if_icmp .ge 7, 3) := by decide +kernel
theorem dX6_isAhead_35 : decode cX6_isAhead 35 = .ok (.iconst 1, 1) := by decide +kernel
theorem dX6_isAhead_36 : decode cX6_isAhead 36 = .ok (.goto 4, 3) := by decide +kernel
theorem dX6_isAhead_39 : decode cX6_isAhead 39 = .ok (.iconst 0, 1) := by decide +kernel
theorem dX6_isAhead_40 : decode cX6_isAhead 40 = .ok (.ireturn, 1) := by decide +kernel
set_option maxRecDepth 20000 in
theorem ggX6_merges_X6_of : GoodIn wsX6_merges wsX6_of := goodIn_r _ [5] (by decide +kernel) (by decide +kernel)
set_option maxRecDepth 20000 in
theorem gX6_merges_X6_of : GoodIn wsX6_merges (va_wsS RX6 51 yX6_of wsX6_of) := goodIn_app (goodIn_of _ (by decide +kernel)) ggX6_merges_X6_of
set_option maxRecDepth 20000 in
theorem ggX6_merges_X6_isAhead : GoodIn wsX6_merges wsX6_isAhead := goodIn_r _ [9, 1, 2, 3, 4, 5, 10, 11, 12, 13, 14, 15, 16, 17, 18, 19, 20, 21, 22] (by decide +kernel) (by decide +kernel)
set_option maxRecDepth 20000 in
theorem gX6_merges_X6_isAhead : GoodIn wsX6_merges (wsV RX6 72 RX6 yX6_isAhead wsX6_isAhead) := goodIn_app (goodIn_of _ (by decide +kernel)) ggX6_merges_X6_isAhead
theorem dX6_merges_0 : decode cX6_merges 0 = .ok (.bipush 22, 2) := by decide +kernel
theorem dX6_merges_2 : decode cX6_merges 2 = .ok (.bipush 12, 2) := by decide +kernel
theorem dX6_merges_4 : decode cX6_merges 4 = .ok (.iload_n 1, 1) := by decide +kernel
theorem dX6_merges_5 : decode cX6_merges 5 = .ok (.imul, 1) := by decide +kernel
theorem dX6_merges_6 : decode cX6_merges 6 = .ok (.iadd, 1) := by decide +kernel
theorem dX6_merges_7 : decode cX6_merges 7 = .ok (.istore_n 3, 1) := by decide +kernel
theorem dX6_merges_8 : decode cX6_merges 8 = .ok (.iconst 0, 1) := by decide +kernel
theorem dX6_merges_9 : decode cX6_merges 9 = .ok (.istore 4, 2) := by decide +kernel
theorem dX6_merges_11 : decode cX6_merges 11 = .ok (.iload 4, 2) := by decide +kernel
theorem dX6_merges_13 : decode cX6_merges 13 = .ok (.aload_n 0, 1) := by decide +kernel
theorem dX6_merges_14 : decode cX6_merges 14 = .ok (.getfield 7, 3) := by decide +kernel
theorem dX6_merges_17 : decode cX6_merges 17 = .ok (.bipush 13, 2) := by decide +kernel
theorem dX6_merges_19 : decode cX6_merges 19 = .ok (.iload_n 2, 1) := by decide +kernel
theorem dX6_merges_20 : decode cX6_merges 20 = .ok (.iadd, 1) := by decide +kernel
theorem dX6_merges_21 : decode cX6_merges 21 = .ok (.iaload, 1) := by decide +kernel
theorem dX6_merges_22 : decode cX6_merges 22 = .ok (.if_icmp .ge 69, 3) := by decide +kernel
theorem dX6_merges_25 : decode cX6_merges 25 = .ok (.aload_n 0, 1) := by decide +kernel
theorem dX6_merges_26 : decode cX6_merges 26 = .ok (.getfield 7, 3) := by decide +kernel
theorem dX6_merges_29 : decode cX6_merges 29 = .ok (.bipush 22, 2) := by decide +kernel
theorem dX6_merges_31 : decode cX6_merges 31 = .ok (.bipush 12, 2) := by decide +kernel
theorem dX6_merges_33 : decode cX6_merges 33 = .ok (.iload_n 2, 1) := by decide +kernel
theorem dX6_merges_34 : decode cX6_merges 34 = .ok (.imul, 1) := by decide +kernel
theorem dX6_merges_35 : decode cX6_merges 35 = .ok (.iadd, 1) := by decide +kernel
theorem dX6_merges_36 : decode cX6_merges 36 = .ok (.iload 4, 2) := by decide +kernel
theorem dX6_merges_38 : decode cX6_merges 38 = .ok (.iadd, 1) := by decide +kernel
theorem dX6_merges_39 : decode cX6_merges 39 = .ok (.iaload, 1) := by decide +kernel
theorem dX6_merges_40 : decode cX6_merges 40 = .ok (.istore 5, 2) := by decide +kernel
theorem dX6_merges_42 : decode cX6_merges 42 = .ok (.aload_n 0, 1) := by decide +kernel
theorem dX6_merges_43 : decode cX6_merges 43 = .ok (.getfield 7, 3) := by decide +kernel
theorem dX6_merges_46 : decode cX6_merges 46 = .ok (.iload 5, 2) := by decide +kernel
theorem dX6_merges_48 : decode cX6_merges 48 = .ok (.iconst 1, 1) := by decide +kernel
theorem dX6_merges_49 : decode cX6_merges 49 = .ok (.invokestatic 51, 3) := by decide +kernel
theorem dX6_merges_52 : decode cX6_merges 52 = .ok (.iload_n 1, 1) := by decide +kernel
theorem dX6_merges_53 : decode cX6_merges 53 = .ok (.iastore, 1) := by decide +kernel
theorem dX6_merges_54 : decode cX6_merges 54 = .ok (.aload_n 0, 1) := by decide +kernel
theorem dX6_merges_55 : decode cX6_merges 55 = .ok (.getfield 7, 3) := by decide +kernel
theorem dX6_merges_58 : decode cX6_merges 58 = .ok (.iload_n 3, 1) := by decide +kernel
theorem dX6_merges_59 : decode cX6_merges 59 = .ok (.aload_n 0, 1) := by decide +kernel
theorem dX6_merges_60 : decode cX6_merges 60 = .ok (.getfield 7, 3) := by decide +kernel
theorem dX6_merges_63 : decode cX6_merges 63 = .ok (.bipush 13, 2) := by decide +kernel
theorem dX6_merges_65 : decode cX6_merges 65 = .ok (.iload_n 1, 1) := by decide +kernel
theorem dX6_merges_66 : decode cX6_merges 66 = .ok (.iadd, 1) := by decide +kernel
theorem dX6_merges_67 : decode cX6_merges 67 = .ok (.iaload, 1) := by decide +kernel
theorem dX6_merges_68 : decode cX6_merges 68 = .ok (.iadd, 1) := by decide +kernel
theorem dX6_merges_69 : decode cX6_merges 69 = .ok (.iload 5, 2) := by decide +kernel
theorem dX6_merges_71 : decode cX6_merges 71 = .ok (.iastore, 1) := by decide +kernel
theorem dX6_merges_72 : decode cX6_merges 72 = .ok (.aload_n 0, 1) := by decide +kernel
theorem dX6_merges_73 : decode cX6_merges 73 = .ok (.getfield 7, 3) := by decide +kernel
theorem dX6_merges_76 : decode cX6_merges 76 = .ok (.bipush 13, 2) := by decide +kernel
theorem dX6_merges_78 : decode cX6_merges 78 = .ok (.iload_n 1, 1) := by decide +kernel
theorem dX6_merges_79 : decode cX6_merges 79 = .ok (.iadd, 1) := by decide +kernel
theorem dX6_merges_80 : decode cX6_merges 80 = .ok (.dup2, 1) := by decide +kernel
theorem dX6_merges_81 : decode cX6_merges 81 = .ok (.iaload, 1) := by decide +kernel
theorem dX6_merges_82 : decode cX6_merges 82 = .ok (.iconst 1, 1) := by decide +kernel
theorem dX6_merges_83 : decode cX6_merges 83 = .ok (.iadd, 1) := by decide +kernel
theorem dX6_merges_84 : decode cX6_merges 84 = .ok (.iastore, 1) := by decide +kernel
theorem dX6_merges_85 : decode cX6_merges 85 = .ok (.iinc 4 1, 3) := by decide +kernel
theorem dX6_merges_88 : decode cX6_merges 88 = .ok (.goto (-77), 3) := by decide +kernel
theorem dX6_merges_91 : decode cX6_merges 91 = .ok (.aload_n 0, 1) := by decide +kernel
theorem dX6_merges_92 : decode cX6_merges 92 = .ok (.getfield 7, 3) := by decide +kernel
theorem dX6_merges_95 : decode cX6_merges 95 = .ok (.bipush 13, 2) := by decide +kernel
theorem dX6_merges_97 : decode cX6_merges 97 = .ok (.iload_n 2, 1) := by decide +kernel
theorem dX6_merges_98 : decode cX6_merges 98 = .ok (.iadd, 1) := by decide +kernel
theorem dX6_merges_99 : decode cX6_merges 99 = .ok (.iconst 0, 1) := by decide +kernel
theorem dX6_merges_100 : decode cX6_merges 100 = .ok (.iastore, 1) := by decide +kernel
theorem dX6_merges_101 : decode cX6_merges 101 = .ok (.aload_n 0, 1) := by decide +kernel
theorem dX6_merges_102 : decode cX6_merges 102 = .ok (.getfield 7, 3) := by decide +kernel
theorem dX6_merges_105 : decode cX6_merges 105 = .ok (.bipush 16, 2) := by decide +kernel
theorem dX6_merges_107 : decode cX6_merges 107 = .ok (.iload_n 2, 1) := by decide +kernel
theorem dX6_merges_108 : decode cX6_merges 108 = .ok (.iadd, 1) := by decide +kernel
theorem dX6_merges_109 : decode cX6_merges 109 = .ok (.iconst 0, 1) := by decide +kernel
theorem dX6_merges_110 : decode cX6_merges 110 = .ok (.iastore, 1) := by decide +kernel
theorem dX6_merges_111 : decode cX6_merges 111 = .ok (.aload_n 0, 1) := by decide +kernel
theorem dX6_merges_112 : decode cX6_merges 112 = .ok (.getfield 7, 3) := by decide +kernel
theorem dX6_merges_115 : decode cX6_merges 115 = .ok (.bipush 13, 2) := by decide +kernel
theorem dX6_merges_117 : decode cX6_merges 117 = .ok (.iload_n 1, 1) := by decide +kernel
theorem dX6_merges_118 : decode cX6_merges 118 = .ok (.iadd, 1) := by decide +kernel
theorem dX6_merges_119 : decode cX6_merges 119 = .ok (.iaload, 1) := by decide +kernel
theorem dX6_merges_120 : decode cX6_merges 120 = .ok (.istore 4, 2) := by decide +kernel
theorem dX6_merges_122 : decode cX6_merges 122 = .ok (.iload 4, 2) := by decide +kernel
theorem dX6_merges_124 : decode cX6_merges 124 = .ok (.iconst 1, 1) := by decide +kernel
theorem dX6_merges_125 : decode cX6_merges 125 = .ok (.if_icmp .le 105, 3) := by decide +kernel
theorem dX6_merges_128 : decode cX6_merges 128 = .ok (.iconst 0, 1) := by decide +kernel
theorem dX6_merges_129 : decode cX6_merges 129 = .ok (.istore 5, 2) := by decide +kernel
theorem dX6_merges_131 : decode cX6_merges 131 = .ok (.iload 5, 2) := by decide +kernel
theorem dX6_merges_133 : decode cX6_merges 133 = .ok (.iconst 1, 1) := by decide +kernel
theorem dX6_merges_134 : decode cX6_merges 134 = .ok (.iadd, 1) := by decide +kernel
theorem dX6_merges_135 : decode cX6_merges 135 = .ok (.iload 4, 2) := by decide +kernel
theorem dX6_merges_137 : decode cX6_merges 137 = .ok (.if_icmp .ge 87, 3) := by decide +kernel
theorem dX6_merges_140 : decode cX6_merges 140 = .ok (.aload_n 0, 1) := by decide +kernel
theorem dX6_merges_141 : decode cX6_merges 141 = .ok (.getfield 7, 3) := by decide +kernel
theorem dX6_merges_144 : decode cX6_merges 144 = .ok (.iload_n 3, 1) := by decide +kernel
theorem dX6_merges_145 : decode cX6_merges 145 = .ok (.iload 5, 2) := by decide +kernel
theorem dX6_merges_147 : decode cX6_merges 147 = .ok (.iadd, 1) := by decide +kernel
theorem dX6_merges_148 : decode cX6_merges 148 = .ok (.iaload, 1) := by decide +kernel
theorem dX6_merges_149 : decode cX6_merges 149 = .ok (.istore 6, 2) := by decide +kernel
theorem dX6_merges_151 : decode cX6_merges 151 = .ok (.aload_n 0, 1) := by decide +kernel
theorem dX6_merges_152 : decode cX6_merges 152 = .ok (.getfield 7, 3) := by decide +kernel
theorem dX6_merges_155 : decode cX6_merges 155 = .ok (.iload_n 3, 1) := by decide +kernel
theorem dX6_merges_156 : decode cX6_merges 156 = .ok (.iload 5, 2) := by decide +kernel
theorem dX6_merges_158 : decode cX6_merges 158 = .ok (.iadd, 1) := by decide +kernel
theorem dX6_merges_159 : decode cX6_merges 159 = .ok (.iconst 1, 1) := by decide +kernel
theorem dX6_merges_160 : decode cX6_merges 160 = .ok (.iadd, 1) := by decide +kernel
theorem dX6_merges_161 : decode cX6_merges 161 = .ok (.iaload, 1) := by decide +kernel
theorem dX6_merges_162 : decode cX6_merges 162 = .ok (.istore 7, 2) := by decide +kernel
theorem dX6_merges_164 : decode cX6_merges 164 = .ok (.aload_n 0, 1) := by decide +kernel
theorem dX6_merges_165 : decode cX6_merges 165 = .ok (.iload 6, 2) := by decide +kernel
theorem dX6_merges_167 : decode cX6_merges 167 = .ok (.iload 7, 2) := by decide +kernel
theorem dX6_merges_169 : decode cX6_merges 169 = .ok (.invokevirtual 72, 3) := by decide +kernel
theorem dX6_merges_172 : decode cX6_merges 172 = .ok (.istore 8, 2) := by decide +kernel
theorem dX6_merges_174 : decode cX6_merges 174 = .ok (.aload_n 0, 1) := by decide +kernel
theorem dX6_merges_175 : decode cX6_merges 175 = .ok (.getfield 7, 3) := by decide +kernel
theorem dX6_merges_178 : decode cX6_merges 178 = .ok (.iload_n 3, 1) := by decide +kernel
theorem dX6_merges_179 : decode cX6_merges 179 = .ok (.iload 5, 2) := by decide +kernel
theorem dX6_merges_181 : decode cX6_merges 181 = .ok (.iadd, 1) := by decide +kernel
theorem dX6_merges_182 : decode cX6_merges 182 = .ok (.iload 8, 2) := by decide +kernel
theorem dX6_merges_184 : decode cX6_merges 184 = .ok (.ifCond .eq 8, 3) := by decide +kernel
theorem dX6_merges_187 : decode cX6_merges 187 = .ok (.iload 6, 2) := by decide +kernel
theorem dX6_merges_189 : decode cX6_merges 189 = .ok (.goto 5, 3) := by decide +kernel
theorem dX6_merges_192 : decode cX6_merges 192 = .ok (.iload 7, 2) := by decide +kernel
theorem dX6_merges_194 : decode cX6_merges 194 = .ok (.iastore, 1) := by decide +kernel
theorem dX6_merges_195 : decode cX6_merges 195 = .ok (.aload_n 0, 1) := by decide +kernel
theorem dX6_merges_196 : decode cX6_merges 196 = .ok (.getfield 7, 3) := by decide +kernel
theorem dX6_merges_199 : decode cX6_merges 199 = .ok (.iload_n 3, 1) := by decide +kernel
theorem dX6_merges_200 : decode cX6_merges 200 = .ok (.iload 5, 2) := by decide +kernel
theorem dX6_merges_202 : decode cX6_merges 202 = .ok (.iadd, 1) := by decide +kernel
theorem dX6_merges_203 : decode cX6_merges 203 = .ok (.iconst 1, 1) := by decide +kernel
theorem dX6_merges_204 : decode cX6_merges 204 = .ok (.iadd, 1) := by decide +kernel
theorem dX6_merges_205 : decode cX6_merges 205 = .ok (.iload 8, 2) := by decide +kernel
theorem dX6_merges_207 : decode cX6_merges 207 = .ok (.ifCond .eq 8, 3) := by decide +kernel
theorem dX6_merges_210 : decode cX6_merges 210 = .ok (.iload 7, 2) := by decide +kernel
theorem dX6_merges_212 : decode cX6_merges 212 = .ok (.goto 5, 3) := by decide +kernel
theorem dX6_merges_215 : decode cX6_merges 215 = .ok (.iload 6, 2) := by decide +kernel
theorem dX6_merges_217 : decode cX6_merges 217 = .ok (.iastore, 1) := by decide +kernel
theorem dX6_merges_218 : decode cX6_merges 218 = .ok (.iinc 5 1, 3) := by decide +kernel
theorem dX6_merges_221 : decode cX6_merges 221 = .ok (.goto (-90), 3) := by decide +kernel
theorem dX6_merges_224 : decode cX6_merges 224 = .ok (.iinc 4 (-1), 3) := by decide +kernel
theorem dX6_merges_227 : decode cX6_merges 227 = .ok (.goto (-105), 3) := by decide +kernel
theorem dX6_merges_230 : decode cX6_merges 230 = .ok (.aload_n 0, 1) := by decide +kernel
theorem dX6_merges_231 : decode cX6_merges 231 = .ok (.getfield 7, 3) := by decide +kernel
theorem dX6_merges_234 : decode cX6_merges 234 = .ok (.bipush 13, 2) := by decide +kernel
theorem dX6_merges_236 : decode cX6_merges 236 = .ok (.iload_n 1, 1) := by decide +kernel
theorem dX6_merges_237 : decode cX6_merges 237 = .ok (.iadd, 1) := by decide +kernel
theorem dX6_merges_238 : decode cX6_merges 238 = .ok (.iaload, 1) := by decide +kernel
theorem dX6_merges_239 : decode cX6_merges 239 = .ok (.ireturn, 1) := by decide +kernel
set_option maxRecDepth 20000 in
theorem ggX6_pays_X6_of : GoodIn wsX6_pays wsX6_of := goodIn_r _ [5] (by decide +kernel) (by decide +kernel)
set_option maxRecDepth 20000 in
theorem gX6_pays_X6_of : GoodIn wsX6_pays (va_wsS RX6 51 yX6_of wsX6_of) := goodIn_app (goodIn_of _ (by decide +kernel)) ggX6_pays_X6_of
set_option maxRecDepth 20000 in
theorem ggX6_pays_X6_isStanding : GoodIn wsX6_pays wsX6_isStanding := goodIn_r _ [9, 1, 2, 3, 4, 5, 10, 11, 12, 13, 14, 15, 16, 17, 18, 19, 20, 21, 22] (by decide +kernel) (by decide +kernel)
set_option maxRecDepth 20000 in
theorem gX6_pays_X6_isStanding : GoodIn wsX6_pays (wsV RX6 62 RX6 yX6_isStanding wsX6_isStanding) := goodIn_app (goodIn_of _ (by decide +kernel)) ggX6_pays_X6_isStanding
theorem dX6_pays_0 : decode cX6_pays 0 = .ok (.aload_n 0, 1) := by decide +kernel
theorem dX6_pays_1 : decode cX6_pays 1 = .ok (.getfield 7, 3) := by decide +kernel
theorem dX6_pays_4 : decode cX6_pays 4 = .ok (.iload_n 1, 1) := by decide +kernel
theorem dX6_pays_5 : decode cX6_pays 5 = .ok (.iconst 2, 1) := by decide +kernel
theorem dX6_pays_6 : decode cX6_pays 6 = .ok (.invokestatic 51, 3) := by decide +kernel
theorem dX6_pays_9 : decode cX6_pays 9 = .ok (.iaload, 1) := by decide +kernel
theorem dX6_pays_10 : decode cX6_pays 10 = .ok (.aload_n 0, 1) := by decide +kernel
theorem dX6_pays_11 : decode cX6_pays 11 = .ok (.getfield 7, 3) := by decide +kernel
theorem dX6_pays_14 : decode cX6_pays 14 = .ok (.bipush 6, 2) := by decide +kernel
theorem dX6_pays_16 : decode cX6_pays 16 = .ok (.iaload, 1) := by decide +kernel
theorem dX6_pays_17 : decode cX6_pays 17 = .ok (.isub, 1) := by decide +kernel
theorem dX6_pays_18 : decode cX6_pays 18 = .ok (.istore_n 2, 1) := by decide +kernel
theorem dX6_pays_19 : decode cX6_pays 19 = .ok (.aload_n 0, 1) := by decide +kernel
theorem dX6_pays_20 : decode cX6_pays 20 = .ok (.iload_n 1, 1) := by decide +kernel
theorem dX6_pays_21 : decode cX6_pays 21 = .ok (.invokevirtual 62, 3) := by decide +kernel
theorem dX6_pays_24 : decode cX6_pays 24 = .ok (.ifCond .eq 70, 3) := by decide +kernel
theorem dX6_pays_27 : decode cX6_pays 27 = .ok (.iload_n 2, 1) := by decide +kernel
theorem dX6_pays_28 : decode cX6_pays 28 = .ok (.ifCond .lt 66, 3) := by decide +kernel
theorem dX6_pays_31 : decode cX6_pays 31 = .ok (.iload_n 2, 1) := by decide +kernel
theorem dX6_pays_32 : decode cX6_pays 32 = .ok (.bipush 10, 2) := by decide +kernel
theorem dX6_pays_34 : decode cX6_pays 34 = .ok (.irem, 1) := by decide +kernel
theorem dX6_pays_35 : decode cX6_pays 35 = .ok (.ifCond .ne 59, 3) := by decide +kernel
theorem dX6_pays_38 : decode cX6_pays 38 = .ok (.aload_n 0, 1) := by decide +kernel
theorem dX6_pays_39 : decode cX6_pays 39 = .ok (.getfield 7, 3) := by decide +kernel
theorem dX6_pays_42 : decode cX6_pays 42 = .ok (.iload_n 1, 1) := by decide +kernel
theorem dX6_pays_43 : decode cX6_pays 43 = .ok (.iconst 3, 1) := by decide +kernel
theorem dX6_pays_44 : decode cX6_pays 44 = .ok (.invokestatic 51, 3) := by decide +kernel
theorem dX6_pays_47 : decode cX6_pays 47 = .ok (.dup2, 1) := by decide +kernel
theorem dX6_pays_48 : decode cX6_pays 48 = .ok (.iaload, 1) := by decide +kernel
theorem dX6_pays_49 : decode cX6_pays 49 = .ok (.aload_n 0, 1) := by decide +kernel
theorem dX6_pays_50 : decode cX6_pays 50 = .ok (.getfield 7, 3) := by decide +kernel
theorem dX6_pays_53 : decode cX6_pays 53 = .ok (.bipush 7, 2) := by decide +kernel
theorem dX6_pays_55 : decode cX6_pays 55 = .ok (.iaload, 1) := by decide +kernel
theorem dX6_pays_56 : decode cX6_pays 56 = .ok (.iadd, 1) := by decide +kernel
theorem dX6_pays_57 : decode cX6_pays 57 = .ok (.iastore, 1) := by decide +kernel
theorem dX6_pays_58 : decode cX6_pays 58 = .ok (.aload_n 0, 1) := by decide +kernel
theorem dX6_pays_59 : decode cX6_pays 59 = .ok (.getfield 7, 3) := by decide +kernel
theorem dX6_pays_62 : decode cX6_pays 62 = .ok (.iload_n 1, 1) := by decide +kernel
theorem dX6_pays_63 : decode cX6_pays 63 = .ok (.iconst 4, 1) := by decide +kernel
theorem dX6_pays_64 : decode cX6_pays 64 = .ok (.invokestatic 51, 3) := by decide +kernel
theorem dX6_pays_67 : decode cX6_pays 67 = .ok (.dup2, 1) := by decide +kernel
theorem dX6_pays_68 : decode cX6_pays 68 = .ok (.iaload, 1) := by decide +kernel
theorem dX6_pays_69 : decode cX6_pays 69 = .ok (.aload_n 0, 1) := by decide +kernel
theorem dX6_pays_70 : decode cX6_pays 70 = .ok (.getfield 7, 3) := by decide +kernel
theorem dX6_pays_73 : decode cX6_pays 73 = .ok (.bipush 7, 2) := by decide +kernel
theorem dX6_pays_75 : decode cX6_pays 75 = .ok (.iaload, 1) := by decide +kernel
theorem dX6_pays_76 : decode cX6_pays 76 = .ok (.iadd, 1) := by decide +kernel
theorem dX6_pays_77 : decode cX6_pays 77 = .ok (.iastore, 1) := by decide +kernel
theorem dX6_pays_78 : decode cX6_pays 78 = .ok (.aload_n 0, 1) := by decide +kernel
theorem dX6_pays_79 : decode cX6_pays 79 = .ok (.getfield 7, 3) := by decide +kernel
theorem dX6_pays_82 : decode cX6_pays 82 = .ok (.iconst 5, 1) := by decide +kernel
theorem dX6_pays_83 : decode cX6_pays 83 = .ok (.dup2, 1) := by decide +kernel
theorem dX6_pays_84 : decode cX6_pays 84 = .ok (.iaload, 1) := by decide +kernel
theorem dX6_pays_85 : decode cX6_pays 85 = .ok (.aload_n 0, 1) := by decide +kernel
theorem dX6_pays_86 : decode cX6_pays 86 = .ok (.getfield 7, 3) := by decide +kernel
theorem dX6_pays_89 : decode cX6_pays 89 = .ok (.bipush 7, 2) := by decide +kernel
theorem dX6_pays_91 : decode cX6_pays 91 = .ok (.iaload, 1) := by decide +kernel
theorem dX6_pays_92 : decode cX6_pays 92 = .ok (.iadd, 1) := by decide +kernel
theorem dX6_pays_93 : decode cX6_pays 93 = .ok (.iastore, 1) := by decide +kernel
theorem dX6_pays_94 : decode cX6_pays 94 = .ok (.return_, 1) := by decide +kernel
set_option maxRecDepth 20000 in
theorem ggX6_minute_X6_of : GoodIn wsX6_minute wsX6_of := goodIn_r _ [5] (by decide +kernel) (by decide +kernel)
set_option maxRecDepth 20000 in
theorem gX6_minute_X6_of : GoodIn wsX6_minute (va_wsS RX6 51 yX6_of wsX6_of) := goodIn_app (goodIn_of _ (by decide +kernel)) ggX6_minute_X6_of
set_option maxRecDepth 20000 in
theorem ggX6_minute_X6_isStanding : GoodIn wsX6_minute wsX6_isStanding := goodIn_r _ [9, 1, 2, 3, 4, 5, 18, 19, 20, 21, 22, 23, 24, 25, 26, 27, 28, 29, 30] (by decide +kernel) (by decide +kernel)
set_option maxRecDepth 20000 in
theorem gX6_minute_X6_isStanding : GoodIn wsX6_minute (wsV RX6 62 RX6 yX6_isStanding wsX6_isStanding) := goodIn_app (goodIn_of _ (by decide +kernel)) ggX6_minute_X6_isStanding
set_option maxRecDepth 20000 in
theorem ggX6_minute_X6_leaves : GoodIn wsX6_minute wsX6_leaves := goodIn_r _ [13, 1, 2, 3, 4, 5, 18, 19, 20, 21, 22, 23, 24, 25, 26, 27, 28, 29, 30] (by decide +kernel) (by decide +kernel)
set_option maxRecDepth 20000 in
theorem gX6_minute_X6_leaves : GoodIn wsX6_minute (wsV RX6 68 RX6 yX6_leaves wsX6_leaves) := goodIn_app (goodIn_of _ (by decide +kernel)) ggX6_minute_X6_leaves
set_option maxRecDepth 20000 in
theorem ggX6_minute_X6_pays : GoodIn wsX6_minute wsX6_pays := goodIn_r _ [17, 1, 2, 3, 4, 5, 6, 7, 8, 9, 18, 19, 20, 21, 22, 23, 24, 25, 26, 27, 28, 29, 30] (by decide +kernel) (by decide +kernel)
set_option maxRecDepth 20000 in
theorem gX6_minute_X6_pays : GoodIn wsX6_minute (wsV RX6 76 RX6 yX6_pays wsX6_pays) := goodIn_app (goodIn_of _ (by decide +kernel)) ggX6_minute_X6_pays
theorem dX6_minute_0 : decode cX6_minute 0 = .ok (.iconst 0, 1) := by decide +kernel
theorem dX6_minute_1 : decode cX6_minute 1 = .ok (.istore_n 1, 1) := by decide +kernel
theorem dX6_minute_2 : decode cX6_minute 2 = .ok (.aload_n 0, 1) := by decide +kernel
theorem dX6_minute_3 : decode cX6_minute 3 = .ok (.getfield 7, 3) := by decide +kernel
theorem dX6_minute_6 : decode cX6_minute 6 = .ok (.iconst 0, 1) := by decide +kernel
theorem dX6_minute_7 : decode cX6_minute 7 = .ok (.dup2, 1) := by decide +kernel
theorem dX6_minute_8 : decode cX6_minute 8 = .ok (.iaload, 1) := by decide +kernel
theorem dX6_minute_9 : decode cX6_minute 9 = .ok (.iconst 1, 1) := by decide +kernel
theorem dX6_minute_10 : decode cX6_minute 10 = .ok (.iadd, 1) := by decide +kernel
theorem dX6_minute_11 : decode cX6_minute 11 = .ok (.iastore, 1) := by decide +kernel
theorem dX6_minute_12 : decode cX6_minute 12 = .ok (.iconst 0, 1) := by decide +kernel
theorem dX6_minute_13 : decode cX6_minute 13 = .ok (.istore_n 2, 1) := by decide +kernel
theorem dX6_minute_14 : decode cX6_minute 14 = .ok (.iload_n 2, 1) := by decide +kernel
theorem dX6_minute_15 : decode cX6_minute 15 = .ok (.aload_n 0, 1) := by decide +kernel
theorem dX6_minute_16 : decode cX6_minute 16 = .ok (.getfield 7, 3) := by decide +kernel
theorem dX6_minute_19 : decode cX6_minute 19 = .ok (.iconst 2, 1) := by decide +kernel
theorem dX6_minute_20 : decode cX6_minute 20 = .ok (.iaload, 1) := by decide +kernel
theorem dX6_minute_21 : decode cX6_minute 21 = .ok (.if_icmp .ge 35, 3) := by decide +kernel
theorem dX6_minute_24 : decode cX6_minute 24 = .ok (.aload_n 0, 1) := by decide +kernel
theorem dX6_minute_25 : decode cX6_minute 25 = .ok (.getfield 7, 3) := by decide +kernel
theorem dX6_minute_28 : decode cX6_minute 28 = .ok (.iload_n 2, 1) := by decide +kernel
theorem dX6_minute_29 : decode cX6_minute 29 = .ok (.iconst 2, 1) := by decide +kernel
theorem dX6_minute_30 : decode cX6_minute 30 = .ok (.invokestatic 51, 3) := by decide +kernel
theorem dX6_minute_33 : decode cX6_minute 33 = .ok (.dup2, 1) := by decide +kernel
theorem dX6_minute_34 : decode cX6_minute 34 = .ok (.iaload, 1) := by decide +kernel
theorem dX6_minute_35 : decode cX6_minute 35 = .ok (.aload_n 0, 1) := by decide +kernel
theorem dX6_minute_36 : decode cX6_minute 36 = .ok (.iload_n 2, 1) := by decide +kernel
theorem dX6_minute_37 : decode cX6_minute 37 = .ok (.invokevirtual 62, 3) := by decide +kernel
theorem dX6_minute_40 : decode cX6_minute 40 = .ok (.ifCond .eq 7, 3) := by decide +kernel
theorem dX6_minute_43 : decode cX6_minute 43 = .ok (.iconst 1, 1) := by decide +kernel
theorem dX6_minute_44 : decode cX6_minute 44 = .ok (.goto 4, 3) := by decide +kernel
theorem dX6_minute_47 : decode cX6_minute 47 = .ok (.iconst 0, 1) := by decide +kernel
theorem dX6_minute_48 : decode cX6_minute 48 = .ok (.iadd, 1) := by decide +kernel
theorem dX6_minute_49 : decode cX6_minute 49 = .ok (.iastore, 1) := by decide +kernel
theorem dX6_minute_50 : decode cX6_minute 50 = .ok (.iinc 2 1, 3) := by decide +kernel
theorem dX6_minute_53 : decode cX6_minute 53 = .ok (.goto (-39), 3) := by decide +kernel
theorem dX6_minute_56 : decode cX6_minute 56 = .ok (.iconst 0, 1) := by decide +kernel
theorem dX6_minute_57 : decode cX6_minute 57 = .ok (.istore_n 2, 1) := by decide +kernel
theorem dX6_minute_58 : decode cX6_minute 58 = .ok (.iload_n 2, 1) := by decide +kernel
theorem dX6_minute_59 : decode cX6_minute 59 = .ok (.aload_n 0, 1) := by decide +kernel
theorem dX6_minute_60 : decode cX6_minute 60 = .ok (.getfield 7, 3) := by decide +kernel
theorem dX6_minute_63 : decode cX6_minute 63 = .ok (.iconst 1, 1) := by decide +kernel
theorem dX6_minute_64 : decode cX6_minute 64 = .ok (.iaload, 1) := by decide +kernel
theorem dX6_minute_65 : decode cX6_minute 65 = .ok (.if_icmp .ge 88, 3) := by decide +kernel
theorem dX6_minute_68 : decode cX6_minute 68 = .ok (.aload_n 0, 1) := by decide +kernel
theorem dX6_minute_69 : decode cX6_minute 69 = .ok (.getfield 7, 3) := by decide +kernel
theorem dX6_minute_72 : decode cX6_minute 72 = .ok (.bipush 13, 2) := by decide +kernel
theorem dX6_minute_74 : decode cX6_minute 74 = .ok (.iload_n 2, 1) := by decide +kernel
theorem dX6_minute_75 : decode cX6_minute 75 = .ok (.iadd, 1) := by decide +kernel
theorem dX6_minute_76 : decode cX6_minute 76 = .ok (.iaload, 1) := by decide +kernel
theorem dX6_minute_77 : decode cX6_minute 77 = .ok (.ifCond .le 70, 3) := by decide +kernel
theorem dX6_minute_80 : decode cX6_minute 80 = .ok (.aload_n 0, 1) := by decide +kernel
theorem dX6_minute_81 : decode cX6_minute 81 = .ok (.getfield 7, 3) := by decide +kernel
theorem dX6_minute_84 : decode cX6_minute 84 = .ok (.bipush 16, 2) := by decide +kernel
theorem dX6_minute_86 : decode cX6_minute 86 = .ok (.iload_n 2, 1) := by decide +kernel
theorem dX6_minute_87 : decode cX6_minute 87 = .ok (.iadd, 1) := by decide +kernel
theorem dX6_minute_88 : decode cX6_minute 88 = .ok (.dup2, 1) := by decide +kernel
theorem dX6_minute_89 : decode cX6_minute 89 = .ok (.iaload, 1) := by decide +kernel
theorem dX6_minute_90 : decode cX6_minute 90 = .ok (.iconst 1, 1) := by decide +kernel
theorem dX6_minute_91 : decode cX6_minute 91 = .ok (.iadd, 1) := by decide +kernel
theorem dX6_minute_92 : decode cX6_minute 92 = .ok (.iastore, 1) := by decide +kernel
theorem dX6_minute_93 : decode cX6_minute 93 = .ok (.aload_n 0, 1) := by decide +kernel
theorem dX6_minute_94 : decode cX6_minute 94 = .ok (.getfield 7, 3) := by decide +kernel
theorem dX6_minute_97 : decode cX6_minute 97 = .ok (.bipush 16, 2) := by decide +kernel
theorem dX6_minute_99 : decode cX6_minute 99 = .ok (.iload_n 2, 1) := by decide +kernel
theorem dX6_minute_100 : decode cX6_minute 100 = .ok (.iadd, 1) := by decide +kernel
theorem dX6_minute_101 : decode cX6_minute 101 = .ok (.iaload, 1) := by decide +kernel
theorem dX6_minute_102 : decode cX6_minute 102 = .ok (.aload_n 0, 1) := by decide +kernel
theorem dX6_minute_103 : decode cX6_minute 103 = .ok (.getfield 7, 3) := by decide +kernel
theorem dX6_minute_106 : decode cX6_minute 106 = .ok (.bipush 10, 2) := by decide +kernel
theorem dX6_minute_108 : decode cX6_minute 108 = .ok (.iload_n 2, 1) := by decide +kernel
theorem dX6_minute_109 : decode cX6_minute 109 = .ok (.iadd, 1) := by decide +kernel
theorem dX6_minute_110 : decode cX6_minute 110 = .ok (.iaload, 1) := by decide +kernel
theorem dX6_minute_111 : decode cX6_minute 111 = .ok (.if_icmp .lt 36, 3) := by decide +kernel
theorem dX6_minute_114 : decode cX6_minute 114 = .ok (.aload_n 0, 1) := by decide +kernel
theorem dX6_minute_115 : decode cX6_minute 115 = .ok (.iload_n 2, 1) := by decide +kernel
theorem dX6_minute_116 : decode cX6_minute 116 = .ok (.iconst 0, 1) := by decide +kernel
theorem dX6_minute_117 : decode cX6_minute 117 = .ok (.iconst 1, 1) := by decide +kernel
theorem dX6_minute_118 : decode cX6_minute 118 = .ok (.invokevirtual 68, 3) := by decide +kernel
theorem dX6_minute_121 : decode cX6_minute 121 = .ok (.aload_n 0, 1) := by decide +kernel
theorem dX6_minute_122 : decode cX6_minute 122 = .ok (.getfield 7, 3) := by decide +kernel
theorem dX6_minute_125 : decode cX6_minute 125 = .ok (.bipush 16, 2) := by decide +kernel
theorem dX6_minute_127 : decode cX6_minute 127 = .ok (.iload_n 2, 1) := by decide +kernel
theorem dX6_minute_128 : decode cX6_minute 128 = .ok (.iadd, 1) := by decide +kernel
theorem dX6_minute_129 : decode cX6_minute 129 = .ok (.iconst 0, 1) := by decide +kernel
theorem dX6_minute_130 : decode cX6_minute 130 = .ok (.iastore, 1) := by decide +kernel
theorem dX6_minute_131 : decode cX6_minute 131 = .ok (.aload_n 0, 1) := by decide +kernel
theorem dX6_minute_132 : decode cX6_minute 132 = .ok (.getfield 7, 3) := by decide +kernel
theorem dX6_minute_135 : decode cX6_minute 135 = .ok (.bipush 19, 2) := by decide +kernel
theorem dX6_minute_137 : decode cX6_minute 137 = .ok (.iload_n 2, 1) := by decide +kernel
theorem dX6_minute_138 : decode cX6_minute 138 = .ok (.iadd, 1) := by decide +kernel
theorem dX6_minute_139 : decode cX6_minute 139 = .ok (.dup2, 1) := by decide +kernel
theorem dX6_minute_140 : decode cX6_minute 140 = .ok (.iaload, 1) := by decide +kernel
theorem dX6_minute_141 : decode cX6_minute 141 = .ok (.iconst 1, 1) := by decide +kernel
theorem dX6_minute_142 : decode cX6_minute 142 = .ok (.iadd, 1) := by decide +kernel
theorem dX6_minute_143 : decode cX6_minute 143 = .ok (.iastore, 1) := by decide +kernel
theorem dX6_minute_144 : decode cX6_minute 144 = .ok (.iinc 1 1, 3) := by decide +kernel
theorem dX6_minute_147 : decode cX6_minute 147 = .ok (.iinc 2 1, 3) := by decide +kernel
theorem dX6_minute_150 : decode cX6_minute 150 = .ok (.goto (-92), 3) := by decide +kernel
theorem dX6_minute_153 : decode cX6_minute 153 = .ok (.iconst 0, 1) := by decide +kernel
theorem dX6_minute_154 : decode cX6_minute 154 = .ok (.istore_n 2, 1) := by decide +kernel
theorem dX6_minute_155 : decode cX6_minute 155 = .ok (.iload_n 2, 1) := by decide +kernel
theorem dX6_minute_156 : decode cX6_minute 156 = .ok (.aload_n 0, 1) := by decide +kernel
theorem dX6_minute_157 : decode cX6_minute 157 = .ok (.getfield 7, 3) := by decide +kernel
theorem dX6_minute_160 : decode cX6_minute 160 = .ok (.iconst 2, 1) := by decide +kernel
theorem dX6_minute_161 : decode cX6_minute 161 = .ok (.iaload, 1) := by decide +kernel
theorem dX6_minute_162 : decode cX6_minute 162 = .ok (.if_icmp .ge 14, 3) := by decide +kernel
theorem dX6_minute_165 : decode cX6_minute 165 = .ok (.aload_n 0, 1) := by decide +kernel
theorem dX6_minute_166 : decode cX6_minute 166 = .ok (.iload_n 2, 1) := by decide +kernel
theorem dX6_minute_167 : decode cX6_minute 167 = .ok (.invokevirtual 76, 3) := by decide +kernel
theorem dX6_minute_170 : decode cX6_minute 170 = .ok (.iinc 2 1, 3) := by decide +kernel
theorem dX6_minute_173 : decode cX6_minute 173 = .ok (.goto (-18), 3) := by decide +kernel
theorem dX6_minute_176 : decode cX6_minute 176 = .ok (.iload_n 1, 1) := by decide +kernel
theorem dX6_minute_177 : decode cX6_minute 177 = .ok (.ireturn, 1) := by decide +kernel
set_option maxRecDepth 20000 in
theorem ggX6_goBy_X6_minute : GoodIn wsX6_goBy wsX6_minute := goodIn_r _ [5, 6, 7, 8, 4, 9, 10, 11, 12, 13, 14, 15, 16, 17, 18, 19, 20, 21, 22, 23, 24, 25, 26, 27, 28, 29, 30, 31, 32, 33, 34] (by decide +kernel) (by decide +kernel)
set_option maxRecDepth 20000 in
theorem gX6_goBy_X6_minute : GoodIn wsX6_goBy (wsV RX6 80 RX6 yX6_minute wsX6_minute) := goodIn_app (goodIn_of _ (by decide +kernel)) ggX6_goBy_X6_minute
theorem dX6_goBy_0 : decode cX6_goBy 0 = .ok (.iconst 0, 1) := by decide +kernel
theorem dX6_goBy_1 : decode cX6_goBy 1 = .ok (.istore_n 2, 1) := by decide +kernel
theorem dX6_goBy_2 : decode cX6_goBy 2 = .ok (.iconst 0, 1) := by decide +kernel
theorem dX6_goBy_3 : decode cX6_goBy 3 = .ok (.istore_n 3, 1) := by decide +kernel
theorem dX6_goBy_4 : decode cX6_goBy 4 = .ok (.iload_n 3, 1) := by decide +kernel
theorem dX6_goBy_5 : decode cX6_goBy 5 = .ok (.iload_n 1, 1) := by decide +kernel
theorem dX6_goBy_6 : decode cX6_goBy 6 = .ok (.if_icmp .ge 16, 3) := by decide +kernel
theorem dX6_goBy_9 : decode cX6_goBy 9 = .ok (.iload_n 2, 1) := by decide +kernel
theorem dX6_goBy_10 : decode cX6_goBy 10 = .ok (.aload_n 0, 1) := by decide +kernel
theorem dX6_goBy_11 : decode cX6_goBy 11 = .ok (.invokevirtual 80, 3) := by decide +kernel
theorem dX6_goBy_14 : decode cX6_goBy 14 = .ok (.iadd, 1) := by decide +kernel
theorem dX6_goBy_15 : decode cX6_goBy 15 = .ok (.istore_n 2, 1) := by decide +kernel
theorem dX6_goBy_16 : decode cX6_goBy 16 = .ok (.iinc 3 1, 3) := by decide +kernel
theorem dX6_goBy_19 : decode cX6_goBy 19 = .ok (.goto (-15), 3) := by decide +kernel
theorem dX6_goBy_22 : decode cX6_goBy 22 = .ok (.iload_n 2, 1) := by decide +kernel
theorem dX6_goBy_23 : decode cX6_goBy 23 = .ok (.ireturn, 1) := by decide +kernel
set_option maxRecDepth 20000 in
theorem ggX6_append_X6_in : GoodIn wsX6_append wsX6_in := goodIn_r _ [6] (by decide +kernel) (by decide +kernel)
set_option maxRecDepth 20000 in
theorem gX6_append_X6_in : GoodIn wsX6_append (va_wsS RX6 47 yX6_in wsX6_in) := goodIn_app (goodIn_of _ (by decide +kernel)) ggX6_append_X6_in
set_option maxRecDepth 20000 in
theorem ggX6_append_X6_holds : GoodIn wsX6_append wsX6_holds := goodIn_r _ [10, 11, 12, 13, 14, 15, 16, 17, 18, 19, 20, 21, 22, 23, 24] (by decide +kernel) (by decide +kernel)
set_option maxRecDepth 20000 in
theorem gX6_append_X6_holds : GoodIn wsX6_append (wsV RX6 87 RX6 yX6_holds wsX6_holds) := goodIn_app (goodIn_of _ (by decide +kernel)) ggX6_append_X6_holds
theorem dX6_append_0 : decode cX6_append 0 = .ok (.aload_n 0, 1) := by decide +kernel
theorem dX6_append_1 : decode cX6_append 1 = .ok (.iload_n 1, 1) := by decide +kernel
theorem dX6_append_2 : decode cX6_append 2 = .ok (.iconst 0, 1) := by decide +kernel
theorem dX6_append_3 : decode cX6_append 3 = .ok (.sipush 255, 3) := by decide +kernel
theorem dX6_append_6 : decode cX6_append 6 = .ok (.invokestatic 47, 3) := by decide +kernel
theorem dX6_append_9 : decode cX6_append 9 = .ok (.ifCond .ne 7, 3) := by decide +kernel
theorem dX6_append_12 : decode cX6_append 12 = .ok (.iconst 1, 1) := by decide +kernel
theorem dX6_append_13 : decode cX6_append 13 = .ok (.goto 17, 3) := by decide +kernel
theorem dX6_append_16 : decode cX6_append 16 = .ok (.aload_n 0, 1) := by decide +kernel
theorem dX6_append_17 : decode cX6_append 17 = .ok (.getfield 84, 3) := by decide +kernel
theorem dX6_append_20 : decode cX6_append 20 = .ok (.bipush 100, 2) := by decide +kernel
theorem dX6_append_22 : decode cX6_append 22 = .ok (.if_icmp .ne 7, 3) := by decide +kernel
theorem dX6_append_25 : decode cX6_append 25 = .ok (.iconst 2, 1) := by decide +kernel
theorem dX6_append_26 : decode cX6_append 26 = .ok (.goto 4, 3) := by decide +kernel
theorem dX6_append_29 : decode cX6_append 29 = .ok (.iconst 0, 1) := by decide +kernel
theorem dX6_append_30 : decode cX6_append 30 = .ok (.invokevirtual 87, 3) := by decide +kernel
theorem dX6_append_33 : decode cX6_append 33 = .ok (.ifCond .ne 5, 3) := by decide +kernel
theorem dX6_append_36 : decode cX6_append 36 = .ok (.iconst 0, 1) := by decide +kernel
theorem dX6_append_37 : decode cX6_append 37 = .ok (.ireturn, 1) := by decide +kernel
theorem dX6_append_38 : decode cX6_append 38 = .ok (.aload_n 0, 1) := by decide +kernel
theorem dX6_append_39 : decode cX6_append 39 = .ok (.getfield 26, 3) := by decide +kernel
theorem dX6_append_42 : decode cX6_append 42 = .ok (.aload_n 0, 1) := by decide +kernel
theorem dX6_append_43 : decode cX6_append 43 = .ok (.getfield 84, 3) := by decide +kernel
theorem dX6_append_46 : decode cX6_append 46 = .ok (.iload_n 1, 1) := by decide +kernel
theorem dX6_append_47 : decode cX6_append 47 = .ok (.i2b, 1) := by decide +kernel
theorem dX6_append_48 : decode cX6_append 48 = .ok (.bastore, 1) := by decide +kernel
theorem dX6_append_49 : decode cX6_append 49 = .ok (.aload_n 0, 1) := by decide +kernel
theorem dX6_append_50 : decode cX6_append 50 = .ok (.dup, 1) := by decide +kernel
theorem dX6_append_51 : decode cX6_append 51 = .ok (.getfield 84, 3) := by decide +kernel
theorem dX6_append_54 : decode cX6_append 54 = .ok (.iconst 1, 1) := by decide +kernel
theorem dX6_append_55 : decode cX6_append 55 = .ok (.iadd, 1) := by decide +kernel
theorem dX6_append_56 : decode cX6_append 56 = .ok (.putfield 84, 3) := by decide +kernel
theorem dX6_append_59 : decode cX6_append 59 = .ok (.aload_n 0, 1) := by decide +kernel
theorem dX6_append_60 : decode cX6_append 60 = .ok (.getfield 84, 3) := by decide +kernel
theorem dX6_append_63 : decode cX6_append 63 = .ok (.ireturn, 1) := by decide +kernel
theorem dX6_clearText_0 : decode cX6_clearText 0 = .ok (.aload_n 0, 1) := by decide +kernel
theorem dX6_clearText_1 : decode cX6_clearText 1 = .ok (.iconst 0, 1) := by decide +kernel
theorem dX6_clearText_2 : decode cX6_clearText 2 = .ok (.putfield 37, 3) := by decide +kernel
theorem dX6_clearText_5 : decode cX6_clearText 5 = .ok (.aload_n 0, 1) := by decide +kernel
theorem dX6_clearText_6 : decode cX6_clearText 6 = .ok (.getfield 84, 3) := by decide +kernel
theorem dX6_clearText_9 : decode cX6_clearText 9 = .ok (.istore_n 1, 1) := by decide +kernel
theorem dX6_clearText_10 : decode cX6_clearText 10 = .ok (.aload_n 0, 1) := by decide +kernel
theorem dX6_clearText_11 : decode cX6_clearText 11 = .ok (.iconst 0, 1) := by decide +kernel
theorem dX6_clearText_12 : decode cX6_clearText 12 = .ok (.putfield 84, 3) := by decide +kernel
theorem dX6_clearText_15 : decode cX6_clearText 15 = .ok (.iload_n 1, 1) := by decide +kernel
theorem dX6_clearText_16 : decode cX6_clearText 16 = .ok (.ireturn, 1) := by decide +kernel
set_option maxRecDepth 20000 in
theorem ggX6_digit_X6_in : GoodIn wsX6_digit wsX6_in := goodIn_r _ [8] (by decide +kernel) (by decide +kernel)
set_option maxRecDepth 20000 in
theorem gX6_digit_X6_in : GoodIn wsX6_digit (va_wsS RX6 47 yX6_in wsX6_in) := goodIn_app (goodIn_of _ (by decide +kernel)) ggX6_digit_X6_in
theorem dX6_digit_0 : decode cX6_digit 0 = .ok (.aload_n 0, 1) := by decide +kernel
theorem dX6_digit_1 : decode cX6_digit 1 = .ok (.getfield 90, 3) := by decide +kernel
theorem dX6_digit_4 : decode cX6_digit 4 = .ok (.aload_n 0, 1) := by decide +kernel
theorem dX6_digit_5 : decode cX6_digit 5 = .ok (.getfield 84, 3) := by decide +kernel
theorem dX6_digit_8 : decode cX6_digit 8 = .ok (.if_icmp .ge 19, 3) := by decide +kernel
theorem dX6_digit_11 : decode cX6_digit 11 = .ok (.aload_n 0, 1) := by decide +kernel
theorem dX6_digit_12 : decode cX6_digit 12 = .ok (.getfield 26, 3) := by decide +kernel
theorem dX6_digit_15 : decode cX6_digit 15 = .ok (.aload_n 0, 1) := by decide +kernel
theorem dX6_digit_16 : decode cX6_digit 16 = .ok (.getfield 90, 3) := by decide +kernel
theorem dX6_digit_19 : decode cX6_digit 19 = .ok (.baload, 1) := by decide +kernel
theorem dX6_digit_20 : decode cX6_digit 20 = .ok (.sipush 255, 3) := by decide +kernel
theorem dX6_digit_23 : decode cX6_digit 23 = .ok (.iand, 1) := by decide +kernel
theorem dX6_digit_24 : decode cX6_digit 24 = .ok (.goto 4, 3) := by decide +kernel
theorem dX6_digit_27 : decode cX6_digit 27 = .ok (.iconst 0, 1) := by decide +kernel
theorem dX6_digit_28 : decode cX6_digit 28 = .ok (.istore_n 3, 1) := by decide +kernel
theorem dX6_digit_29 : decode cX6_digit 29 = .ok (.aload_n 0, 1) := by decide +kernel
theorem dX6_digit_30 : decode cX6_digit 30 = .ok (.aload_n 0, 1) := by decide +kernel
theorem dX6_digit_31 : decode cX6_digit 31 = .ok (.getfield 93, 3) := by decide +kernel
theorem dX6_digit_34 : decode cX6_digit 34 = .ok (.ifCond .ne 18, 3) := by decide +kernel
theorem dX6_digit_37 : decode cX6_digit 37 = .ok (.iload_n 3, 1) := by decide +kernel
theorem dX6_digit_38 : decode cX6_digit 38 = .ok (.bipush 48, 2) := by decide +kernel
theorem dX6_digit_40 : decode cX6_digit 40 = .ok (.iload_n 1, 1) := by decide +kernel
theorem dX6_digit_41 : decode cX6_digit 41 = .ok (.iadd, 1) := by decide +kernel
theorem dX6_digit_42 : decode cX6_digit 42 = .ok (.bipush 48, 2) := by decide +kernel
theorem dX6_digit_44 : decode cX6_digit 44 = .ok (.iload_n 2, 1) := by decide +kernel
theorem dX6_digit_45 : decode cX6_digit 45 = .ok (.iadd, 1) := by decide +kernel
theorem dX6_digit_46 : decode cX6_digit 46 = .ok (.invokestatic 47, 3) := by decide +kernel
theorem dX6_digit_49 : decode cX6_digit 49 = .ok (.ifCond .ne 7, 3) := by decide +kernel
theorem dX6_digit_52 : decode cX6_digit 52 = .ok (.iconst 1, 1) := by decide +kernel
theorem dX6_digit_53 : decode cX6_digit 53 = .ok (.goto 4, 3) := by decide +kernel
theorem dX6_digit_56 : decode cX6_digit 56 = .ok (.iconst 0, 1) := by decide +kernel
theorem dX6_digit_57 : decode cX6_digit 57 = .ok (.putfield 93, 3) := by decide +kernel
theorem dX6_digit_60 : decode cX6_digit 60 = .ok (.aload_n 0, 1) := by decide +kernel
theorem dX6_digit_61 : decode cX6_digit 61 = .ok (.dup, 1) := by decide +kernel
theorem dX6_digit_62 : decode cX6_digit 62 = .ok (.getfield 90, 3) := by decide +kernel
theorem dX6_digit_65 : decode cX6_digit 65 = .ok (.aload_n 0, 1) := by decide +kernel
theorem dX6_digit_66 : decode cX6_digit 66 = .ok (.getfield 93, 3) := by decide +kernel
theorem dX6_digit_69 : decode cX6_digit 69 = .ok (.ifCond .eq 7, 3) := by decide +kernel
theorem dX6_digit_72 : decode cX6_digit 72 = .ok (.iconst 0, 1) := by decide +kernel
theorem dX6_digit_73 : decode cX6_digit 73 = .ok (.goto 4, 3) := by decide +kernel
theorem dX6_digit_76 : decode cX6_digit 76 = .ok (.iconst 1, 1) := by decide +kernel
theorem dX6_digit_77 : decode cX6_digit 77 = .ok (.iadd, 1) := by decide +kernel
theorem dX6_digit_78 : decode cX6_digit 78 = .ok (.putfield 90, 3) := by decide +kernel
theorem dX6_digit_81 : decode cX6_digit 81 = .ok (.iload_n 3, 1) := by decide +kernel
theorem dX6_digit_82 : decode cX6_digit 82 = .ok (.bipush 48, 2) := by decide +kernel
theorem dX6_digit_84 : decode cX6_digit 84 = .ok (.isub, 1) := by decide +kernel
theorem dX6_digit_85 : decode cX6_digit 85 = .ok (.ireturn, 1) := by decide +kernel
set_option maxRecDepth 20000 in
theorem ggX6_pace_X6_digit : GoodIn wsX6_pace wsX6_digit := goodIn_r _ [5, 6, 7, 8, 9, 10, 11, 4, 12, 13, 14, 15, 16, 17, 18, 19, 20, 21, 22, 23, 24, 25] (by decide +kernel) (by decide +kernel)
set_option maxRecDepth 20000 in
theorem gX6_pace_X6_digit : GoodIn wsX6_pace (wsV RX6 97 RX6 yX6_digit wsX6_digit) := goodIn_app (goodIn_of _ (by decide +kernel)) ggX6_pace_X6_digit
theorem dX6_pace_0 : decode cX6_pace 0 = .ok (.aload_n 0, 1) := by decide +kernel
theorem dX6_pace_1 : decode cX6_pace 1 = .ok (.iconst 0, 1) := by decide +kernel
theorem dX6_pace_2 : decode cX6_pace 2 = .ok (.iconst 2, 1) := by decide +kernel
theorem dX6_pace_3 : decode cX6_pace 3 = .ok (.invokevirtual 97, 3) := by decide +kernel
theorem dX6_pace_6 : decode cX6_pace 6 = .ok (.istore_n 1, 1) := by decide +kernel
theorem dX6_pace_7 : decode cX6_pace 7 = .ok (.aload_n 0, 1) := by decide +kernel
theorem dX6_pace_8 : decode cX6_pace 8 = .ok (.iload_n 1, 1) := by decide +kernel
theorem dX6_pace_9 : decode cX6_pace 9 = .ok (.ifCond .ne 7, 3) := by decide +kernel
theorem dX6_pace_12 : decode cX6_pace 12 = .ok (.iconst 1, 1) := by decide +kernel
theorem dX6_pace_13 : decode cX6_pace 13 = .ok (.goto 4, 3) := by decide +kernel
theorem dX6_pace_16 : decode cX6_pace 16 = .ok (.iconst 0, 1) := by decide +kernel
theorem dX6_pace_17 : decode cX6_pace 17 = .ok (.iload_n 1, 1) := by decide +kernel
theorem dX6_pace_18 : decode cX6_pace 18 = .ok (.iconst 2, 1) := by decide +kernel
theorem dX6_pace_19 : decode cX6_pace 19 = .ok (.if_icmp .ne 7, 3) := by decide +kernel
theorem dX6_pace_22 : decode cX6_pace 22 = .ok (.iconst 0, 1) := by decide +kernel
theorem dX6_pace_23 : decode cX6_pace 23 = .ok (.goto 5, 3) := by decide +kernel
theorem dX6_pace_26 : decode cX6_pace 26 = .ok (.bipush 9, 2) := by decide +kernel
theorem dX6_pace_28 : decode cX6_pace 28 = .ok (.invokevirtual 97, 3) := by decide +kernel
theorem dX6_pace_31 : decode cX6_pace 31 = .ok (.istore_n 2, 1) := by decide +kernel
theorem dX6_pace_32 : decode cX6_pace 32 = .ok (.bipush 10, 2) := by decide +kernel
theorem dX6_pace_34 : decode cX6_pace 34 = .ok (.iload_n 1, 1) := by decide +kernel
theorem dX6_pace_35 : decode cX6_pace 35 = .ok (.imul, 1) := by decide +kernel
theorem dX6_pace_36 : decode cX6_pace 36 = .ok (.iload_n 2, 1) := by decide +kernel
theorem dX6_pace_37 : decode cX6_pace 37 = .ok (.iadd, 1) := by decide +kernel
theorem dX6_pace_38 : decode cX6_pace 38 = .ok (.ireturn, 1) := by decide +kernel
set_option maxRecDepth 20000 in
theorem ggX6_who_X6_digit : GoodIn wsX6_who wsX6_digit := goodIn_r _ [5, 6, 7, 8, 9, 10, 11, 4, 12, 13, 14, 15, 16, 17, 18, 19, 20, 21, 22, 23, 24, 25] (by decide +kernel) (by decide +kernel)
set_option maxRecDepth 20000 in
theorem gX6_who_X6_digit : GoodIn wsX6_who (wsV RX6 97 RX6 yX6_digit wsX6_digit) := goodIn_app (goodIn_of _ (by decide +kernel)) ggX6_who_X6_digit
theorem dX6_who_0 : decode cX6_who 0 = .ok (.aload_n 0, 1) := by decide +kernel
theorem dX6_who_1 : decode cX6_who 1 = .ok (.iconst 0, 1) := by decide +kernel
theorem dX6_who_2 : decode cX6_who 2 = .ok (.iconst 2, 1) := by decide +kernel
theorem dX6_who_3 : decode cX6_who 3 = .ok (.invokevirtual 97, 3) := by decide +kernel
theorem dX6_who_6 : decode cX6_who 6 = .ok (.istore_n 1, 1) := by decide +kernel
theorem dX6_who_7 : decode cX6_who 7 = .ok (.bipush 10, 2) := by decide +kernel
theorem dX6_who_9 : decode cX6_who 9 = .ok (.iload_n 1, 1) := by decide +kernel
theorem dX6_who_10 : decode cX6_who 10 = .ok (.imul, 1) := by decide +kernel
theorem dX6_who_11 : decode cX6_who 11 = .ok (.aload_n 0, 1) := by decide +kernel
theorem dX6_who_12 : decode cX6_who 12 = .ok (.iconst 0, 1) := by decide +kernel
theorem dX6_who_13 : decode cX6_who 13 = .ok (.bipush 9, 2) := by decide +kernel
theorem dX6_who_15 : decode cX6_who 15 = .ok (.invokevirtual 97, 3) := by decide +kernel
theorem dX6_who_18 : decode cX6_who 18 = .ok (.iadd, 1) := by decide +kernel
theorem dX6_who_19 : decode cX6_who 19 = .ok (.ireturn, 1) := by decide +kernel
set_option maxRecDepth 20000 in
theorem ggX6_command_X6_digit : GoodIn wsX6_command wsX6_digit := goodIn_r _ [9, 2, 10, 1, 3, 11, 12, 8, 13, 90, 91, 92, 93, 94, 95, 96, 97, 98, 99, 100, 101, 102] (by decide +kernel) (by decide +kernel)
set_option maxRecDepth 20000 in
theorem gX6_command_X6_digit : GoodIn wsX6_command (wsV RX6 97 RX6 yX6_digit wsX6_digit) := goodIn_app (goodIn_of _ (by decide +kernel)) ggX6_command_X6_digit
set_option maxRecDepth 20000 in
theorem ggX6_command_X6_who : GoodIn wsX6_command wsX6_who := goodIn_r _ [17, 5, 6, 7, 8, 9, 2, 10, 1, 3, 11, 12, 13, 90, 91, 92, 93, 94, 95, 96, 97, 98, 99, 100, 101, 102] (by decide +kernel) (by decide +kernel)
set_option maxRecDepth 20000 in
theorem gX6_command_X6_who : GoodIn wsX6_command (wsV RX6 100 RX6 yX6_who wsX6_who) := goodIn_app (goodIn_of _ (by decide +kernel)) ggX6_command_X6_who
set_option maxRecDepth 20000 in
theorem ggX6_command_X6_carries : GoodIn wsX6_command wsX6_carries := goodIn_r _ [21, 22, 23, 24, 8, 25, 26, 27, 28, 29, 30, 11, 12, 13, 31, 32, 33, 34, 35, 36, 37, 38, 39, 40, 41, 42, 43, 44, 45, 46, 47, 48, 49, 50, 51, 52, 53, 54, 55, 56, 57, 58, 59, 60, 61, 62, 63, 64, 65, 66, 67, 68, 69, 70, 71, 72, 73, 74, 75, 76, 77, 78, 79, 80, 81, 82, 83, 84, 85, 86, 87, 88, 89, 90, 91, 92, 93, 94, 95, 96, 97, 98, 99, 100, 101, 102] (by decide +kernel) (by decide +kernel)
set_option maxRecDepth 20000 in
theorem gX6_command_X6_carries : GoodIn wsX6_command (wsV RX6 106 RX6 yX6_carries wsX6_carries) := goodIn_app (goodIn_of _ (by decide +kernel)) ggX6_command_X6_carries
theorem dX6_command_0 : decode cX6_command 0 = .ok (.aload_n 0, 1) := by decide +kernel
theorem dX6_command_1 : decode cX6_command 1 = .ok (.getfield 26, 3) := by decide +kernel
theorem dX6_command_4 : decode cX6_command 4 = .ok (.aload_n 0, 1) := by decide +kernel
theorem dX6_command_5 : decode cX6_command 5 = .ok (.getfield 90, 3) := by decide +kernel
theorem dX6_command_8 : decode cX6_command 8 = .ok (.baload, 1) := by decide +kernel
theorem dX6_command_9 : decode cX6_command 9 = .ok (.sipush 255, 3) := by decide +kernel
theorem dX6_command_12 : decode cX6_command 12 = .ok (.iand, 1) := by decide +kernel
theorem dX6_command_13 : decode cX6_command 13 = .ok (.istore_n 2, 1) := by decide +kernel
theorem dX6_command_14 : decode cX6_command 14 = .ok (.aload_n 0, 1) := by decide +kernel
theorem dX6_command_15 : decode cX6_command 15 = .ok (.iload_n 2, 1) := by decide +kernel
theorem dX6_command_16 : decode cX6_command 16 = .ok (.bipush 99, 2) := by decide +kernel
theorem dX6_command_18 : decode cX6_command 18 = .ok (.if_icmp .eq 31, 3) := by decide +kernel
theorem dX6_command_21 : decode cX6_command 21 = .ok (.iload_n 2, 1) := by decide +kernel
theorem dX6_command_22 : decode cX6_command 22 = .ok (.bipush 103, 2) := by decide +kernel
theorem dX6_command_24 : decode cX6_command 24 = .ok (.if_icmp .eq 25, 3) := by decide +kernel
theorem dX6_command_27 : decode cX6_command 27 = .ok (.iload_n 2, 1) := by decide +kernel
theorem dX6_command_28 : decode cX6_command 28 = .ok (.bipush 120, 2) := by decide +kernel
theorem dX6_command_30 : decode cX6_command 30 = .ok (.if_icmp .eq 19, 3) := by decide +kernel
theorem dX6_command_33 : decode cX6_command 33 = .ok (.iload_n 2, 1) := by decide +kernel
theorem dX6_command_34 : decode cX6_command 34 = .ok (.bipush 106, 2) := by decide +kernel
theorem dX6_command_36 : decode cX6_command 36 = .ok (.if_icmp .eq 13, 3) := by decide +kernel
theorem dX6_command_39 : decode cX6_command 39 = .ok (.iload_n 2, 1) := by decide +kernel
theorem dX6_command_40 : decode cX6_command 40 = .ok (.bipush 116, 2) := by decide +kernel
theorem dX6_command_42 : decode cX6_command 42 = .ok (.if_icmp .eq 7, 3) := by decide +kernel
theorem dX6_command_45 : decode cX6_command 45 = .ok (.iconst 1, 1) := by decide +kernel
theorem dX6_command_46 : decode cX6_command 46 = .ok (.goto 4, 3) := by decide +kernel
theorem dX6_command_49 : decode cX6_command 49 = .ok (.iconst 0, 1) := by decide +kernel
theorem dX6_command_50 : decode cX6_command 50 = .ok (.putfield 93, 3) := by decide +kernel
theorem dX6_command_53 : decode cX6_command 53 = .ok (.aload_n 0, 1) := by decide +kernel
theorem dX6_command_54 : decode cX6_command 54 = .ok (.dup, 1) := by decide +kernel
theorem dX6_command_55 : decode cX6_command 55 = .ok (.getfield 90, 3) := by decide +kernel
theorem dX6_command_58 : decode cX6_command 58 = .ok (.aload_n 0, 1) := by decide +kernel
theorem dX6_command_59 : decode cX6_command 59 = .ok (.getfield 93, 3) := by decide +kernel
theorem dX6_command_62 : decode cX6_command 62 = .ok (.ifCond .eq 7, 3) := by decide +kernel
theorem dX6_command_65 : decode cX6_command 65 = .ok (.iconst 0, 1) := by decide +kernel
theorem dX6_command_66 : decode cX6_command 66 = .ok (.goto 4, 3) := by decide +kernel
theorem dX6_command_69 : decode cX6_command 69 = .ok (.iconst 1, 1) := by decide +kernel
theorem dX6_command_70 : decode cX6_command 70 = .ok (.iadd, 1) := by decide +kernel
theorem dX6_command_71 : decode cX6_command 71 = .ok (.putfield 90, 3) := by decide +kernel
theorem dX6_command_74 : decode cX6_command 74 = .ok (.aload_n 0, 1) := by decide +kernel
theorem dX6_command_75 : decode cX6_command 75 = .ok (.getfield 93, 3) := by decide +kernel
theorem dX6_command_78 : decode cX6_command 78 = .ok (.ifCond .eq 7, 3) := by decide +kernel
theorem dX6_command_81 : decode cX6_command 81 = .ok (.iconst 0, 1) := by decide +kernel
theorem dX6_command_82 : decode cX6_command 82 = .ok (.goto 38, 3) := by decide +kernel
theorem dX6_command_85 : decode cX6_command 85 = .ok (.iload_n 2, 1) := by decide +kernel
theorem dX6_command_86 : decode cX6_command 86 = .ok (.bipush 99, 2) := by decide +kernel
theorem dX6_command_88 : decode cX6_command 88 = .ok (.if_icmp .ne 12, 3) := by decide +kernel
theorem dX6_command_91 : decode cX6_command 91 = .ok (.aload_n 0, 1) := by decide +kernel
theorem dX6_command_92 : decode cX6_command 92 = .ok (.iconst 0, 1) := by decide +kernel
theorem dX6_command_93 : decode cX6_command 93 = .ok (.iconst 2, 1) := by decide +kernel
theorem dX6_command_94 : decode cX6_command 94 = .ok (.invokevirtual 97, 3) := by decide +kernel
theorem dX6_command_97 : decode cX6_command 97 = .ok (.goto 23, 3) := by decide +kernel
theorem dX6_command_100 : decode cX6_command 100 = .ok (.iload_n 2, 1) := by decide +kernel
theorem dX6_command_101 : decode cX6_command 101 = .ok (.bipush 116, 2) := by decide +kernel
theorem dX6_command_103 : decode cX6_command 103 = .ok (.if_icmp .ne 13, 3) := by decide +kernel
theorem dX6_command_106 : decode cX6_command 106 = .ok (.aload_n 0, 1) := by decide +kernel
theorem dX6_command_107 : decode cX6_command 107 = .ok (.iconst 1, 1) := by decide +kernel
theorem dX6_command_108 : decode cX6_command 108 = .ok (.bipush 9, 2) := by decide +kernel
theorem dX6_command_110 : decode cX6_command 110 = .ok (.invokevirtual 97, 3) := by decide +kernel
theorem dX6_command_113 : decode cX6_command 113 = .ok (.goto 7, 3) := by decide +kernel
theorem dX6_command_116 : decode cX6_command 116 = .ok (.aload_n 0, 1) := by decide +kernel
theorem dX6_command_117 : decode cX6_command 117 = .ok (.invokevirtual 100, 3) := by decide +kernel
theorem dX6_command_120 : decode cX6_command 120 = .ok (.istore_n 3, 1) := by decide +kernel
theorem dX6_command_121 : decode cX6_command 121 = .ok (.aload_n 0, 1) := by decide +kernel
theorem dX6_command_122 : decode cX6_command 122 = .ok (.getfield 93, 3) := by decide +kernel
theorem dX6_command_125 : decode cX6_command 125 = .ok (.ifCond .eq 7, 3) := by decide +kernel
theorem dX6_command_128 : decode cX6_command 128 = .ok (.iconst 0, 1) := by decide +kernel
theorem dX6_command_129 : decode cX6_command 129 = .ok (.goto 32, 3) := by decide +kernel
theorem dX6_command_132 : decode cX6_command 132 = .ok (.iload_n 2, 1) := by decide +kernel
theorem dX6_command_133 : decode cX6_command 133 = .ok (.bipush 99, 2) := by decide +kernel
theorem dX6_command_135 : decode cX6_command 135 = .ok (.if_icmp .ne 12, 3) := by decide +kernel
theorem dX6_command_138 : decode cX6_command 138 = .ok (.aload_n 0, 1) := by decide +kernel
theorem dX6_command_139 : decode cX6_command 139 = .ok (.iconst 0, 1) := by decide +kernel
theorem dX6_command_140 : decode cX6_command 140 = .ok (.iconst 2, 1) := by decide +kernel
theorem dX6_command_141 : decode cX6_command 141 = .ok (.invokevirtual 97, 3) := by decide +kernel
theorem dX6_command_144 : decode cX6_command 144 = .ok (.goto 17, 3) := by decide +kernel
theorem dX6_command_147 : decode cX6_command 147 = .ok (.iload_n 2, 1) := by decide +kernel
theorem dX6_command_148 : decode cX6_command 148 = .ok (.bipush 120, 2) := by decide +kernel
theorem dX6_command_150 : decode cX6_command 150 = .ok (.if_icmp .ne 10, 3) := by decide +kernel
theorem dX6_command_153 : decode cX6_command 153 = .ok (.aload_n 0, 1) := by decide +kernel
theorem dX6_command_154 : decode cX6_command 154 = .ok (.invokevirtual 100, 3) := by decide +kernel
theorem dX6_command_157 : decode cX6_command 157 = .ok (.goto 4, 3) := by decide +kernel
theorem dX6_command_160 : decode cX6_command 160 = .ok (.iconst 0, 1) := by decide +kernel
theorem dX6_command_161 : decode cX6_command 161 = .ok (.istore 4, 2) := by decide +kernel
theorem dX6_command_163 : decode cX6_command 163 = .ok (.iload_n 1, 1) := by decide +kernel
theorem dX6_command_164 : decode cX6_command 164 = .ok (.ifCond .eq 35, 3) := by decide +kernel
theorem dX6_command_167 : decode cX6_command 167 = .ok (.aload_n 0, 1) := by decide +kernel
theorem dX6_command_168 : decode cX6_command 168 = .ok (.getfield 93, 3) := by decide +kernel
theorem dX6_command_171 : decode cX6_command 171 = .ok (.ifCond .ne 28, 3) := by decide +kernel
theorem dX6_command_174 : decode cX6_command 174 = .ok (.aload_n 0, 1) := by decide +kernel
theorem dX6_command_175 : decode cX6_command 175 = .ok (.dup, 1) := by decide +kernel
theorem dX6_command_176 : decode cX6_command 176 = .ok (.getfield 103, 3) := by decide +kernel
theorem dX6_command_179 : decode cX6_command 179 = .ok (.aload_n 0, 1) := by decide +kernel
theorem dX6_command_180 : decode cX6_command 180 = .ok (.iload_n 2, 1) := by decide +kernel
theorem dX6_command_181 : decode cX6_command 181 = .ok (.iload_n 3, 1) := by decide +kernel
theorem dX6_command_182 : decode cX6_command 182 = .ok (.iload 4, 2) := by decide +kernel
theorem dX6_command_184 : decode cX6_command 184 = .ok (.invokevirtual 106, 3) := by decide +kernel
theorem dX6_command_187 : decode cX6_command 187 = .ok (.ifCond .eq 7, 3) := by decide +kernel
theorem dX6_command_190 : decode cX6_command 190 = .ok (.iconst 0, 1) := by decide +kernel
theorem dX6_command_191 : decode cX6_command 191 = .ok (.goto 4, 3) := by decide +kernel
theorem dX6_command_194 : decode cX6_command 194 = .ok (.iconst 1, 1) := by decide +kernel
theorem dX6_command_195 : decode cX6_command 195 = .ok (.iadd, 1) := by decide +kernel
theorem dX6_command_196 : decode cX6_command 196 = .ok (.putfield 103, 3) := by decide +kernel
theorem dX6_command_199 : decode cX6_command 199 = .ok (.return_, 1) := by decide +kernel
set_option maxRecDepth 20000 in
theorem ggX6_carries_X6_comeFault : GoodIn wsX6_carries wsX6_comeFault := goodIn_r _ [5, 6, 7, 8, 9, 4, 10, 11, 12, 13, 73, 74, 75, 76, 77, 78, 79, 80, 81, 82, 83, 84, 85] (by decide +kernel) (by decide +kernel)
set_option maxRecDepth 20000 in
theorem gX6_carries_X6_comeFault : GoodIn wsX6_carries (wsV RX6 109 RX6 yX6_comeFault wsX6_comeFault) := goodIn_app (goodIn_of _ (by decide +kernel)) ggX6_carries_X6_comeFault
set_option maxRecDepth 20000 in
theorem ggX6_carries_X6_goFault : GoodIn wsX6_carries wsX6_goFault := goodIn_r _ [17, 18, 19, 20, 4, 21, 6, 11, 12, 13, 22, 23, 24, 25, 26, 27, 28, 73, 74, 75, 76, 77, 78, 79, 80, 81, 82, 83, 84, 85] (by decide +kernel) (by decide +kernel)
set_option maxRecDepth 20000 in
theorem gX6_carries_X6_goFault : GoodIn wsX6_carries (wsV RX6 112 RX6 yX6_goFault wsX6_goFault) := goodIn_app (goodIn_of _ (by decide +kernel)) ggX6_carries_X6_goFault
set_option maxRecDepth 20000 in
theorem ggX6_carries_X6_exchangeFault : GoodIn wsX6_carries wsX6_exchangeFault := goodIn_r _ [32, 6, 18, 19, 20, 4, 21, 11, 12, 13, 22, 23, 24, 25, 26, 27, 28, 33, 34, 35, 36, 73, 74, 75, 76, 77, 78, 79, 80, 81, 82, 83, 84, 85] (by decide +kernel) (by decide +kernel)
set_option maxRecDepth 20000 in
theorem gX6_carries_X6_exchangeFault : GoodIn wsX6_carries (wsV RX6 115 RX6 yX6_exchangeFault wsX6_exchangeFault) := goodIn_app (goodIn_of _ (by decide +kernel)) ggX6_carries_X6_exchangeFault
set_option maxRecDepth 20000 in
theorem ggX6_carries_X6_jumpFault : GoodIn wsX6_carries wsX6_jumpFault := goodIn_r _ [40, 6, 18, 19, 20, 4, 21, 11, 12, 13, 22, 23, 24, 25, 26, 27, 28, 33, 34, 35, 36, 73, 74, 75, 76, 77, 78, 79, 80, 81, 82, 83, 84, 85] (by decide +kernel) (by decide +kernel)
set_option maxRecDepth 20000 in
theorem gX6_carries_X6_jumpFault : GoodIn wsX6_carries (wsV RX6 118 RX6 yX6_jumpFault wsX6_jumpFault) := goodIn_app (goodIn_of _ (by decide +kernel)) ggX6_carries_X6_jumpFault
set_option maxRecDepth 20000 in
theorem ggX6_carries_X6_comes : GoodIn wsX6_carries wsX6_comes := goodIn_r _ [44, 6, 26, 27, 4, 28, 73, 74, 75, 76, 77, 78, 79, 80, 81, 82, 83, 84, 85] (by decide +kernel) (by decide +kernel)
set_option maxRecDepth 20000 in
theorem gX6_carries_X6_comes : GoodIn wsX6_carries (wsV RX6 121 RX6 yX6_comes wsX6_comes) := goodIn_app (goodIn_of _ (by decide +kernel)) ggX6_carries_X6_comes
set_option maxRecDepth 20000 in
theorem ggX6_carries_X6_goes : GoodIn wsX6_carries wsX6_goes := goodIn_r _ [48, 6, 26, 27, 4, 28, 33, 34, 35, 36, 49, 50, 51, 52, 73, 74, 75, 76, 77, 78, 79, 80, 81, 82, 83, 84, 85] (by decide +kernel) (by decide +kernel)
set_option maxRecDepth 20000 in
theorem gX6_carries_X6_goes : GoodIn wsX6_carries (wsV RX6 124 RX6 yX6_goes wsX6_goes) := goodIn_app (goodIn_of _ (by decide +kernel)) ggX6_carries_X6_goes
set_option maxRecDepth 20000 in
theorem ggX6_carries_X6_exchanges : GoodIn wsX6_carries wsX6_exchanges := goodIn_r _ [56, 6, 26, 27, 4, 28, 33, 34, 35, 36, 73, 74, 75, 76, 77, 78, 79, 80, 81, 82, 83, 84, 85] (by decide +kernel) (by decide +kernel)
set_option maxRecDepth 20000 in
theorem gX6_carries_X6_exchanges : GoodIn wsX6_carries (wsV RX6 127 RX6 yX6_exchanges wsX6_exchanges) := goodIn_app (goodIn_of _ (by decide +kernel)) ggX6_carries_X6_exchanges
set_option maxRecDepth 20000 in
theorem ggX6_carries_X6_jumps : GoodIn wsX6_carries wsX6_jumps := goodIn_r _ [60, 6, 26, 27, 4, 28, 33, 34, 35, 36, 73, 74, 75, 76, 77, 78, 79, 80, 81, 82, 83, 84, 85] (by decide +kernel) (by decide +kernel)
set_option maxRecDepth 20000 in
theorem gX6_carries_X6_jumps : GoodIn wsX6_carries (wsV RX6 130 RX6 yX6_jumps wsX6_jumps) := goodIn_app (goodIn_of _ (by decide +kernel)) ggX6_carries_X6_jumps
set_option maxRecDepth 20000 in
theorem ggX6_carries_X6_goBy : GoodIn wsX6_carries wsX6_goBy := goodIn_r _ [64, 65, 66, 67, 4, 68, 6, 26, 27, 28, 22, 23, 24, 25, 49, 50, 51, 52, 69, 70, 71, 72, 73, 74, 75, 76, 77, 78, 79, 80, 81, 82, 83, 84, 85] (by decide +kernel) (by decide +kernel)
set_option maxRecDepth 20000 in
theorem gX6_carries_X6_goBy : GoodIn wsX6_carries (wsV RX6 133 RX6 yX6_goBy wsX6_goBy) := goodIn_app (goodIn_of _ (by decide +kernel)) ggX6_carries_X6_goBy
theorem dX6_carries_0 : decode cX6_carries 0 = .ok (.iload_n 1, 1) := by decide +kernel
theorem dX6_carries_1 : decode cX6_carries 1 = .ok (.bipush 99, 2) := by decide +kernel
theorem dX6_carries_3 : decode cX6_carries 3 = .ok (.if_icmp .ne 12, 3) := by decide +kernel
theorem dX6_carries_6 : decode cX6_carries 6 = .ok (.aload_n 0, 1) := by decide +kernel
theorem dX6_carries_7 : decode cX6_carries 7 = .ok (.iload_n 3, 1) := by decide +kernel
theorem dX6_carries_8 : decode cX6_carries 8 = .ok (.iload_n 2, 1) := by decide +kernel
theorem dX6_carries_9 : decode cX6_carries 9 = .ok (.invokevirtual 109, 3) := by decide +kernel
theorem dX6_carries_12 : decode cX6_carries 12 = .ok (.goto 47, 3) := by decide +kernel
theorem dX6_carries_15 : decode cX6_carries 15 = .ok (.iload_n 1, 1) := by decide +kernel
theorem dX6_carries_16 : decode cX6_carries 16 = .ok (.bipush 103, 2) := by decide +kernel
theorem dX6_carries_18 : decode cX6_carries 18 = .ok (.if_icmp .ne 11, 3) := by decide +kernel
theorem dX6_carries_21 : decode cX6_carries 21 = .ok (.aload_n 0, 1) := by decide +kernel
theorem dX6_carries_22 : decode cX6_carries 22 = .ok (.iload_n 2, 1) := by decide +kernel
theorem dX6_carries_23 : decode cX6_carries 23 = .ok (.invokevirtual 112, 3) := by decide +kernel
theorem dX6_carries_26 : decode cX6_carries 26 = .ok (.goto 33, 3) := by decide +kernel
theorem dX6_carries_29 : decode cX6_carries 29 = .ok (.iload_n 1, 1) := by decide +kernel
theorem dX6_carries_30 : decode cX6_carries 30 = .ok (.bipush 120, 2) := by decide +kernel
theorem dX6_carries_32 : decode cX6_carries 32 = .ok (.if_icmp .ne 12, 3) := by decide +kernel
theorem dX6_carries_35 : decode cX6_carries 35 = .ok (.aload_n 0, 1) := by decide +kernel
theorem dX6_carries_36 : decode cX6_carries 36 = .ok (.iload_n 2, 1) := by decide +kernel
theorem dX6_carries_37 : decode cX6_carries 37 = .ok (.iload_n 3, 1) := by decide +kernel
theorem dX6_carries_38 : decode cX6_carries 38 = .ok (.invokevirtual 115, 3) := by decide +kernel
theorem dX6_carries_41 : decode cX6_carries 41 = .ok (.goto 18, 3) := by decide +kernel
theorem dX6_carries_44 : decode cX6_carries 44 = .ok (.iload_n 1, 1) := by decide +kernel
theorem dX6_carries_45 : decode cX6_carries 45 = .ok (.bipush 106, 2) := by decide +kernel
theorem dX6_carries_47 : decode cX6_carries 47 = .ok (.if_icmp .ne 11, 3) := by decide +kernel
theorem dX6_carries_50 : decode cX6_carries 50 = .ok (.aload_n 0, 1) := by decide +kernel
theorem dX6_carries_51 : decode cX6_carries 51 = .ok (.iload_n 2, 1) := by decide +kernel
theorem dX6_carries_52 : decode cX6_carries 52 = .ok (.invokevirtual 118, 3) := by decide +kernel
theorem dX6_carries_55 : decode cX6_carries 55 = .ok (.goto 4, 3) := by decide +kernel
theorem dX6_carries_58 : decode cX6_carries 58 = .ok (.iconst 0, 1) := by decide +kernel
theorem dX6_carries_59 : decode cX6_carries 59 = .ok (.istore 4, 2) := by decide +kernel
theorem dX6_carries_61 : decode cX6_carries 61 = .ok (.iload 4, 2) := by decide +kernel
theorem dX6_carries_63 : decode cX6_carries 63 = .ok (.ifCond .ne 68, 3) := by decide +kernel
theorem dX6_carries_66 : decode cX6_carries 66 = .ok (.iload_n 1, 1) := by decide +kernel
theorem dX6_carries_67 : decode cX6_carries 67 = .ok (.bipush 99, 2) := by decide +kernel
theorem dX6_carries_69 : decode cX6_carries 69 = .ok (.if_icmp .ne 12, 3) := by decide +kernel
theorem dX6_carries_72 : decode cX6_carries 72 = .ok (.aload_n 0, 1) := by decide +kernel
theorem dX6_carries_73 : decode cX6_carries 73 = .ok (.iload_n 3, 1) := by decide +kernel
theorem dX6_carries_74 : decode cX6_carries 74 = .ok (.iload_n 2, 1) := by decide +kernel
theorem dX6_carries_75 : decode cX6_carries 75 = .ok (.invokevirtual 121, 3) := by decide +kernel
theorem dX6_carries_78 : decode cX6_carries 78 = .ok (.goto 51, 3) := by decide +kernel
theorem dX6_carries_81 : decode cX6_carries 81 = .ok (.iload_n 1, 1) := by decide +kernel
theorem dX6_carries_82 : decode cX6_carries 82 = .ok (.bipush 103, 2) := by decide +kernel
theorem dX6_carries_84 : decode cX6_carries 84 = .ok (.if_icmp .ne 11, 3) := by decide +kernel
theorem dX6_carries_87 : decode cX6_carries 87 = .ok (.aload_n 0, 1) := by decide +kernel
theorem dX6_carries_88 : decode cX6_carries 88 = .ok (.iload_n 2, 1) := by decide +kernel
theorem dX6_carries_89 : decode cX6_carries 89 = .ok (.invokevirtual 124, 3) := by decide +kernel
theorem dX6_carries_92 : decode cX6_carries 92 = .ok (.goto 37, 3) := by decide +kernel
theorem dX6_carries_95 : decode cX6_carries 95 = .ok (.iload_n 1, 1) := by decide +kernel
theorem dX6_carries_96 : decode cX6_carries 96 = .ok (.bipush 120, 2) := by decide +kernel
theorem dX6_carries_98 : decode cX6_carries 98 = .ok (.if_icmp .ne 12, 3) := by decide +kernel
theorem dX6_carries_101 : decode cX6_carries 101 = .ok (.aload_n 0, 1) := by decide +kernel
theorem dX6_carries_102 : decode cX6_carries 102 = .ok (.iload_n 2, 1) := by decide +kernel
theorem dX6_carries_103 : decode cX6_carries 103 = .ok (.iload_n 3, 1) := by decide +kernel
theorem dX6_carries_104 : decode cX6_carries 104 = .ok (.invokevirtual 127, 3) := by decide +kernel
theorem dX6_carries_107 : decode cX6_carries 107 = .ok (.goto 22, 3) := by decide +kernel
theorem dX6_carries_110 : decode cX6_carries 110 = .ok (.iload_n 1, 1) := by decide +kernel
theorem dX6_carries_111 : decode cX6_carries 111 = .ok (.bipush 106, 2) := by decide +kernel
theorem dX6_carries_113 : decode cX6_carries 113 = .ok (.if_icmp .ne 11, 3) := by decide +kernel
theorem dX6_carries_116 : decode cX6_carries 116 = .ok (.aload_n 0, 1) := by decide +kernel
theorem dX6_carries_117 : decode cX6_carries 117 = .ok (.iload_n 2, 1) := by decide +kernel
theorem dX6_carries_118 : decode cX6_carries 118 = .ok (.invokevirtual 130, 3) := by decide +kernel
theorem dX6_carries_121 : decode cX6_carries 121 = .ok (.goto 8, 3) := by decide +kernel
theorem dX6_carries_124 : decode cX6_carries 124 = .ok (.aload_n 0, 1) := by decide +kernel
theorem dX6_carries_125 : decode cX6_carries 125 = .ok (.iload_n 2, 1) := by decide +kernel
theorem dX6_carries_126 : decode cX6_carries 126 = .ok (.invokevirtual 133, 3) := by decide +kernel
theorem dX6_carries_129 : decode cX6_carries 129 = .ok (.istore 5, 2) := by decide +kernel
theorem dX6_carries_131 : decode cX6_carries 131 = .ok (.iload 4, 2) := by decide +kernel
theorem dX6_carries_133 : decode cX6_carries 133 = .ok (.ifCond .ne 7, 3) := by decide +kernel
theorem dX6_carries_136 : decode cX6_carries 136 = .ok (.iconst 1, 1) := by decide +kernel
theorem dX6_carries_137 : decode cX6_carries 137 = .ok (.goto 4, 3) := by decide +kernel
theorem dX6_carries_140 : decode cX6_carries 140 = .ok (.iconst 0, 1) := by decide +kernel
theorem dX6_carries_141 : decode cX6_carries 141 = .ok (.ireturn, 1) := by decide +kernel
set_option maxRecDepth 20000 in
theorem ggX6_read_X6_digit : GoodIn wsX6_read wsX6_digit := goodIn_r _ [10, 1, 3, 4, 5, 11, 12, 9, 13, 108, 109, 110, 111, 112, 113, 114, 115, 116, 117, 118, 119, 120] (by decide +kernel) (by decide +kernel)
set_option maxRecDepth 20000 in
theorem gX6_read_X6_digit : GoodIn wsX6_read (wsV RX6 97 RX6 yX6_digit wsX6_digit) := goodIn_app (goodIn_of _ (by decide +kernel)) ggX6_read_X6_digit
set_option maxRecDepth 20000 in
theorem ggX6_read_X6_begin : GoodIn wsX6_read wsX6_begin := goodIn_r _ [17, 18, 19, 20, 108, 109, 110, 111, 112, 113, 114, 115, 116, 117, 118, 119, 120] (by decide +kernel) (by decide +kernel)
set_option maxRecDepth 20000 in
theorem gX6_read_X6_begin : GoodIn wsX6_read (wsV RX6 30 RX6 yX6_begin wsX6_begin) := goodIn_app (goodIn_of _ (by decide +kernel)) ggX6_read_X6_begin
set_option maxRecDepth 20000 in
theorem ggX6_read_X6_pace : GoodIn wsX6_read wsX6_pace := goodIn_r _ [24, 6, 7, 8, 9, 10, 1, 3, 4, 5, 11, 12, 13, 108, 109, 110, 111, 112, 113, 114, 115, 116, 117, 118, 119, 120] (by decide +kernel) (by decide +kernel)
set_option maxRecDepth 20000 in
theorem gX6_read_X6_pace : GoodIn wsX6_read (wsV RX6 136 RX6 yX6_pace wsX6_pace) := goodIn_app (goodIn_of _ (by decide +kernel)) ggX6_read_X6_pace
set_option maxRecDepth 20000 in
theorem ggX6_read_X6_lineOf : GoodIn wsX6_read wsX6_lineOf := goodIn_r _ [28, 18, 108, 109, 110, 111, 112, 113, 114, 115, 116, 117, 118, 119, 120] (by decide +kernel) (by decide +kernel)
set_option maxRecDepth 20000 in
theorem gX6_read_X6_lineOf : GoodIn wsX6_read (wsV RX6 33 RX6 yX6_lineOf wsX6_lineOf) := goodIn_app (goodIn_of _ (by decide +kernel)) ggX6_read_X6_lineOf
set_option maxRecDepth 20000 in
theorem ggX6_read_X6_command : GoodIn wsX6_read wsX6_command := goodIn_r _ [32, 4, 1, 5, 2, 6, 7, 8, 9, 10, 3, 11, 12, 13, 33, 34, 35, 36, 37, 38, 39, 40, 41, 42, 43, 44, 18, 45, 46, 47, 48, 49, 50, 51, 52, 53, 54, 55, 56, 57, 58, 59, 60, 61, 62, 63, 64, 65, 66, 67, 68, 69, 70, 71, 72, 73, 74, 75, 76, 77, 78, 79, 80, 81, 82, 83, 84, 85, 86, 87, 88, 89, 90, 91, 92, 93, 94, 95, 96, 97, 98, 99, 100, 101, 102, 103, 104, 105, 106, 107, 108, 109, 110, 111, 112, 113, 114, 115, 116, 117, 118, 119, 120] (by decide +kernel) (by decide +kernel)
set_option maxRecDepth 20000 in
theorem gX6_read_X6_command : GoodIn wsX6_read (wsV RX6 139 RX6 yX6_command wsX6_command) := goodIn_app (goodIn_of _ (by decide +kernel)) ggX6_read_X6_command
theorem dX6_read_0 : decode cX6_read 0 = .ok (.aload_n 0, 1) := by decide +kernel
theorem dX6_read_1 : decode cX6_read 1 = .ok (.iconst 0, 1) := by decide +kernel
theorem dX6_read_2 : decode cX6_read 2 = .ok (.putfield 90, 3) := by decide +kernel
theorem dX6_read_5 : decode cX6_read 5 = .ok (.aload_n 0, 1) := by decide +kernel
theorem dX6_read_6 : decode cX6_read 6 = .ok (.iconst 0, 1) := by decide +kernel
theorem dX6_read_7 : decode cX6_read 7 = .ok (.putfield 103, 3) := by decide +kernel
theorem dX6_read_10 : decode cX6_read 10 = .ok (.aload_n 0, 1) := by decide +kernel
theorem dX6_read_11 : decode cX6_read 11 = .ok (.aload_n 0, 1) := by decide +kernel
theorem dX6_read_12 : decode cX6_read 12 = .ok (.getfield 84, 3) := by decide +kernel
theorem dX6_read_15 : decode cX6_read 15 = .ok (.ifCond .eq 14, 3) := by decide +kernel
theorem dX6_read_18 : decode cX6_read 18 = .ok (.aload_n 0, 1) := by decide +kernel
theorem dX6_read_19 : decode cX6_read 19 = .ok (.getfield 26, 3) := by decide +kernel
theorem dX6_read_22 : decode cX6_read 22 = .ok (.iconst 0, 1) := by decide +kernel
theorem dX6_read_23 : decode cX6_read 23 = .ok (.baload, 1) := by decide +kernel
theorem dX6_read_24 : decode cX6_read 24 = .ok (.bipush 87, 2) := by decide +kernel
theorem dX6_read_26 : decode cX6_read 26 = .ok (.if_icmp .eq 7, 3) := by decide +kernel
theorem dX6_read_29 : decode cX6_read 29 = .ok (.iconst 1, 1) := by decide +kernel
theorem dX6_read_30 : decode cX6_read 30 = .ok (.goto 4, 3) := by decide +kernel
theorem dX6_read_33 : decode cX6_read 33 = .ok (.iconst 0, 1) := by decide +kernel
theorem dX6_read_34 : decode cX6_read 34 = .ok (.putfield 93, 3) := by decide +kernel
theorem dX6_read_37 : decode cX6_read 37 = .ok (.aload_n 0, 1) := by decide +kernel
theorem dX6_read_38 : decode cX6_read 38 = .ok (.aload_n 0, 1) := by decide +kernel
theorem dX6_read_39 : decode cX6_read 39 = .ok (.getfield 93, 3) := by decide +kernel
theorem dX6_read_42 : decode cX6_read 42 = .ok (.ifCond .eq 7, 3) := by decide +kernel
theorem dX6_read_45 : decode cX6_read 45 = .ok (.iconst 0, 1) := by decide +kernel
theorem dX6_read_46 : decode cX6_read 46 = .ok (.goto 4, 3) := by decide +kernel
theorem dX6_read_49 : decode cX6_read 49 = .ok (.iconst 1, 1) := by decide +kernel
theorem dX6_read_50 : decode cX6_read 50 = .ok (.putfield 90, 3) := by decide +kernel
theorem dX6_read_53 : decode cX6_read 53 = .ok (.aload_n 0, 1) := by decide +kernel
theorem dX6_read_54 : decode cX6_read 54 = .ok (.getfield 93, 3) := by decide +kernel
theorem dX6_read_57 : decode cX6_read 57 = .ok (.ifCond .eq 7, 3) := by decide +kernel
theorem dX6_read_60 : decode cX6_read 60 = .ok (.iconst 0, 1) := by decide +kernel
theorem dX6_read_61 : decode cX6_read 61 = .ok (.goto 9, 3) := by decide +kernel
theorem dX6_read_64 : decode cX6_read 64 = .ok (.aload_n 0, 1) := by decide +kernel
theorem dX6_read_65 : decode cX6_read 65 = .ok (.iconst 1, 1) := by decide +kernel
theorem dX6_read_66 : decode cX6_read 66 = .ok (.iconst 3, 1) := by decide +kernel
theorem dX6_read_67 : decode cX6_read 67 = .ok (.invokevirtual 97, 3) := by decide +kernel
theorem dX6_read_70 : decode cX6_read 70 = .ok (.istore_n 2, 1) := by decide +kernel
theorem dX6_read_71 : decode cX6_read 71 = .ok (.iload_n 1, 1) := by decide +kernel
theorem dX6_read_72 : decode cX6_read 72 = .ok (.ifCond .eq 7, 3) := by decide +kernel
theorem dX6_read_75 : decode cX6_read 75 = .ok (.aload_n 0, 1) := by decide +kernel
theorem dX6_read_76 : decode cX6_read 76 = .ok (.invokevirtual 30, 3) := by decide +kernel
theorem dX6_read_79 : decode cX6_read 79 = .ok (.iconst 0, 1) := by decide +kernel
theorem dX6_read_80 : decode cX6_read 80 = .ok (.istore_n 3, 1) := by decide +kernel
theorem dX6_read_81 : decode cX6_read 81 = .ok (.iload_n 3, 1) := by decide +kernel
theorem dX6_read_82 : decode cX6_read 82 = .ok (.iload_n 2, 1) := by decide +kernel
theorem dX6_read_83 : decode cX6_read 83 = .ok (.if_icmp .ge 41, 3) := by decide +kernel
