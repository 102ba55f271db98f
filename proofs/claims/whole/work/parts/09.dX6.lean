theorem dX6_init_0 : decode cX6_init 0 = .ok (.aload_n 0, 1) := by decide +kernel
theorem dX6_init_1 : decode cX6_init 1 = .ok (.invokespecial 1, 3) := by decide +kernel
theorem dX6_init_4 : decode cX6_init 4 = .ok (.aload_n 0, 1) := by decide +kernel
theorem dX6_init_5 : decode cX6_init 5 = .ok (.sipush 350, 3) := by decide +kernel
theorem dX6_init_8 : decode cX6_init 8 = .ok (.newarray .int, 2) := by decide +kernel
theorem dX6_init_10 : decode cX6_init 10 = .ok (.putfield 7, 3) := by decide +kernel
theorem dX6_init_13 : decode cX6_init 13 = .ok (.aload_n 0, 1) := by decide +kernel
theorem dX6_init_14 : decode cX6_init 14 = .ok (.sipush 350, 3) := by decide +kernel
theorem dX6_init_17 : decode cX6_init 17 = .ok (.newarray .int, 2) := by decide +kernel
theorem dX6_init_19 : decode cX6_init 19 = .ok (.putfield 13, 3) := by decide +kernel
theorem dX6_init_22 : decode cX6_init 22 = .ok (.aload_n 0, 1) := by decide +kernel
theorem dX6_init_23 : decode cX6_init 23 = .ok (.sipush 2100, 3) := by decide +kernel
theorem dX6_init_26 : decode cX6_init 26 = .ok (.newarray .int, 2) := by decide +kernel
theorem dX6_init_28 : decode cX6_init 28 = .ok (.putfield 16, 3) := by decide +kernel
theorem dX6_init_31 : decode cX6_init 31 = .ok (.aload_n 0, 1) := by decide +kernel
theorem dX6_init_32 : decode cX6_init 32 = .ok (.sipush 350, 3) := by decide +kernel
theorem dX6_init_35 : decode cX6_init 35 = .ok (.newarray .int, 2) := by decide +kernel
theorem dX6_init_37 : decode cX6_init 37 = .ok (.putfield 19, 3) := by decide +kernel
theorem dX6_init_40 : decode cX6_init 40 = .ok (.aload_n 0, 1) := by decide +kernel
theorem dX6_init_41 : decode cX6_init 41 = .ok (.bipush 60, 2) := by decide +kernel
theorem dX6_init_43 : decode cX6_init 43 = .ok (.newarray .int, 2) := by decide +kernel
theorem dX6_init_45 : decode cX6_init 45 = .ok (.putfield 22, 3) := by decide +kernel
theorem dX6_init_48 : decode cX6_init 48 = .ok (.aload_n 0, 1) := by decide +kernel
theorem dX6_init_49 : decode cX6_init 49 = .ok (.getfield 7, 3) := by decide +kernel
theorem dX6_init_52 : decode cX6_init 52 = .ok (.sipush 329, 3) := by decide +kernel
theorem dX6_init_55 : decode cX6_init 55 = .ok (.bipush 7, 2) := by decide +kernel
theorem dX6_init_57 : decode cX6_init 57 = .ok (.iastore, 1) := by decide +kernel
theorem dX6_init_58 : decode cX6_init 58 = .ok (.aload_n 0, 1) := by decide +kernel
theorem dX6_init_59 : decode cX6_init 59 = .ok (.getfield 7, 3) := by decide +kernel
theorem dX6_init_62 : decode cX6_init 62 = .ok (.sipush 341, 3) := by decide +kernel
theorem dX6_init_65 : decode cX6_init 65 = .ok (.iconst 4, 1) := by decide +kernel
theorem dX6_init_66 : decode cX6_init 66 = .ok (.iastore, 1) := by decide +kernel
theorem dX6_init_67 : decode cX6_init 67 = .ok (.aload_n 0, 1) := by decide +kernel
theorem dX6_init_68 : decode cX6_init 68 = .ok (.getfield 7, 3) := by decide +kernel
theorem dX6_init_71 : decode cX6_init 71 = .ok (.sipush 342, 3) := by decide +kernel
theorem dX6_init_74 : decode cX6_init 74 = .ok (.bipush 20, 2) := by decide +kernel
theorem dX6_init_76 : decode cX6_init 76 = .ok (.iastore, 1) := by decide +kernel
theorem dX6_init_77 : decode cX6_init 77 = .ok (.aload_n 0, 1) := by decide +kernel
theorem dX6_init_78 : decode cX6_init 78 = .ok (.getfield 7, 3) := by decide +kernel
theorem dX6_init_81 : decode cX6_init 81 = .ok (.sipush 343, 3) := by decide +kernel
theorem dX6_init_84 : decode cX6_init 84 = .ok (.iconst 1, 1) := by decide +kernel
theorem dX6_init_85 : decode cX6_init 85 = .ok (.iastore, 1) := by decide +kernel
theorem dX6_init_86 : decode cX6_init 86 = .ok (.aload_n 0, 1) := by decide +kernel
theorem dX6_init_87 : decode cX6_init 87 = .ok (.getfield 7, 3) := by decide +kernel
theorem dX6_init_90 : decode cX6_init 90 = .ok (.sipush 344, 3) := by decide +kernel
theorem dX6_init_93 : decode cX6_init 93 = .ok (.bipush 60, 2) := by decide +kernel
theorem dX6_init_95 : decode cX6_init 95 = .ok (.iastore, 1) := by decide +kernel
theorem dX6_init_96 : decode cX6_init 96 = .ok (.return_, 1) := by decide +kernel
theorem dX6_thrown_0 : decode cX6_thrown 0 = .ok (.aload_n 0, 1) := by decide +kernel
theorem dX6_thrown_1 : decode cX6_thrown 1 = .ok (.getfield 25, 3) := by decide +kernel
theorem dX6_thrown_4 : decode cX6_thrown 4 = .ok (.ireturn, 1) := by decide +kernel
theorem dX6_throwing_0 : decode cX6_throwing 0 = .ok (.aload_n 0, 1) := by decide +kernel
theorem dX6_throwing_1 : decode cX6_throwing 1 = .ok (.iload_n 1, 1) := by decide +kernel
theorem dX6_throwing_2 : decode cX6_throwing 2 = .ok (.putfield 25, 3) := by decide +kernel
theorem dX6_throwing_5 : decode cX6_throwing 5 = .ok (.iconst 0, 1) := by decide +kernel
theorem dX6_throwing_6 : decode cX6_throwing 6 = .ok (.ireturn, 1) := by decide +kernel
theorem dX6_in_0 : decode cX6_in 0 = .ok (.iload_n 0, 1) := by decide +kernel
theorem dX6_in_1 : decode cX6_in 1 = .ok (.iload_n 1, 1) := by decide +kernel
theorem dX6_in_2 : decode cX6_in 2 = .ok (.if_icmp .lt 12, 3) := by decide +kernel
theorem dX6_in_5 : decode cX6_in 5 = .ok (.iload_n 0, 1) := by decide +kernel
theorem dX6_in_6 : decode cX6_in 6 = .ok (.iload_n 2, 1) := by decide +kernel
theorem dX6_in_7 : decode cX6_in 7 = .ok (.if_icmp .gt 7, 3) := by decide +kernel
theorem dX6_in_10 : decode cX6_in 10 = .ok (.iconst 1, 1) := by decide +kernel
theorem dX6_in_11 : decode cX6_in 11 = .ok (.goto 4, 3) := by decide +kernel
theorem dX6_in_14 : decode cX6_in 14 = .ok (.iconst 0, 1) := by decide +kernel
theorem dX6_in_15 : decode cX6_in 15 = .ok (.ireturn, 1) := by decide +kernel
theorem dX6_putAside_0 : decode cX6_putAside 0 = .ok (.iconst 0, 1) := by decide +kernel
theorem dX6_putAside_1 : decode cX6_putAside 1 = .ok (.istore_n 1, 1) := by decide +kernel
theorem dX6_putAside_2 : decode cX6_putAside 2 = .ok (.iload_n 1, 1) := by decide +kernel
theorem dX6_putAside_3 : decode cX6_putAside 3 = .ok (.sipush 350, 3) := by decide +kernel
theorem dX6_putAside_6 : decode cX6_putAside 6 = .ok (.if_icmp .ge 21, 3) := by decide +kernel
theorem dX6_putAside_9 : decode cX6_putAside 9 = .ok (.aload_n 0, 1) := by decide +kernel
theorem dX6_putAside_10 : decode cX6_putAside 10 = .ok (.getfield 13, 3) := by decide +kernel
theorem dX6_putAside_13 : decode cX6_putAside 13 = .ok (.iload_n 1, 1) := by decide +kernel
theorem dX6_putAside_14 : decode cX6_putAside 14 = .ok (.aload_n 0, 1) := by decide +kernel
theorem dX6_putAside_15 : decode cX6_putAside 15 = .ok (.getfield 7, 3) := by decide +kernel
theorem dX6_putAside_18 : decode cX6_putAside 18 = .ok (.iload_n 1, 1) := by decide +kernel
theorem dX6_putAside_19 : decode cX6_putAside 19 = .ok (.iaload, 1) := by decide +kernel
theorem dX6_putAside_20 : decode cX6_putAside 20 = .ok (.iastore, 1) := by decide +kernel
theorem dX6_putAside_21 : decode cX6_putAside 21 = .ok (.iinc 1 1, 3) := by decide +kernel
theorem dX6_putAside_24 : decode cX6_putAside 24 = .ok (.goto (-22), 3) := by decide +kernel
theorem dX6_putAside_27 : decode cX6_putAside 27 = .ok (.return_, 1) := by decide +kernel
theorem dX6_putBack_0 : decode cX6_putBack 0 = .ok (.iconst 0, 1) := by decide +kernel
theorem dX6_putBack_1 : decode cX6_putBack 1 = .ok (.istore_n 1, 1) := by decide +kernel
theorem dX6_putBack_2 : decode cX6_putBack 2 = .ok (.iload_n 1, 1) := by decide +kernel
theorem dX6_putBack_3 : decode cX6_putBack 3 = .ok (.sipush 350, 3) := by decide +kernel
theorem dX6_putBack_6 : decode cX6_putBack 6 = .ok (.if_icmp .ge 21, 3) := by decide +kernel
theorem dX6_putBack_9 : decode cX6_putBack 9 = .ok (.aload_n 0, 1) := by decide +kernel
theorem dX6_putBack_10 : decode cX6_putBack 10 = .ok (.getfield 7, 3) := by decide +kernel
theorem dX6_putBack_13 : decode cX6_putBack 13 = .ok (.iload_n 1, 1) := by decide +kernel
theorem dX6_putBack_14 : decode cX6_putBack 14 = .ok (.aload_n 0, 1) := by decide +kernel
theorem dX6_putBack_15 : decode cX6_putBack 15 = .ok (.getfield 13, 3) := by decide +kernel
theorem dX6_putBack_18 : decode cX6_putBack 18 = .ok (.iload_n 1, 1) := by decide +kernel
theorem dX6_putBack_19 : decode cX6_putBack 19 = .ok (.iaload, 1) := by decide +kernel
theorem dX6_putBack_20 : decode cX6_putBack 20 = .ok (.iastore, 1) := by decide +kernel
theorem dX6_putBack_21 : decode cX6_putBack 21 = .ok (.iinc 1 1, 3) := by decide +kernel
theorem dX6_putBack_24 : decode cX6_putBack 24 = .ok (.goto (-22), 3) := by decide +kernel
theorem dX6_putBack_27 : decode cX6_putBack 27 = .ok (.return_, 1) := by decide +kernel
theorem dX6_save_0 : decode cX6_save 0 = .ok (.aload_n 0, 1) := by decide +kernel
theorem dX6_save_1 : decode cX6_save 1 = .ok (.getfield 29, 3) := by decide +kernel
theorem dX6_save_4 : decode cX6_save 4 = .ok (.bipush 6, 2) := by decide +kernel
theorem dX6_save_6 : decode cX6_save 6 = .ok (.if_icmp .ne 44, 3) := by decide +kernel
theorem dX6_save_9 : decode cX6_save 9 = .ok (.iconst 0, 1) := by decide +kernel
theorem dX6_save_10 : decode cX6_save 10 = .ok (.istore_n 1, 1) := by decide +kernel
theorem dX6_save_11 : decode cX6_save 11 = .ok (.iload_n 1, 1) := by decide +kernel
theorem dX6_save_12 : decode cX6_save 12 = .ok (.sipush 1750, 3) := by decide +kernel
theorem dX6_save_15 : decode cX6_save 15 = .ok (.if_icmp .ge 25, 3) := by decide +kernel
theorem dX6_save_18 : decode cX6_save 18 = .ok (.aload_n 0, 1) := by decide +kernel
theorem dX6_save_19 : decode cX6_save 19 = .ok (.getfield 16, 3) := by decide +kernel
theorem dX6_save_22 : decode cX6_save 22 = .ok (.iload_n 1, 1) := by decide +kernel
theorem dX6_save_23 : decode cX6_save 23 = .ok (.aload_n 0, 1) := by decide +kernel
theorem dX6_save_24 : decode cX6_save 24 = .ok (.getfield 16, 3) := by decide +kernel
theorem dX6_save_27 : decode cX6_save 27 = .ok (.sipush 350, 3) := by decide +kernel
theorem dX6_save_30 : decode cX6_save 30 = .ok (.iload_n 1, 1) := by decide +kernel
theorem dX6_save_31 : decode cX6_save 31 = .ok (.iadd, 1) := by decide +kernel
theorem dX6_save_32 : decode cX6_save 32 = .ok (.iaload, 1) := by decide +kernel
theorem dX6_save_33 : decode cX6_save 33 = .ok (.iastore, 1) := by decide +kernel
theorem dX6_save_34 : decode cX6_save 34 = .ok (.iinc 1 1, 3) := by decide +kernel
theorem dX6_save_37 : decode cX6_save 37 = .ok (.goto (-26), 3) := by decide +kernel
theorem dX6_save_40 : decode cX6_save 40 = .ok (.aload_n 0, 1) := by decide +kernel
theorem dX6_save_41 : decode cX6_save 41 = .ok (.dup, 1) := by decide +kernel
theorem dX6_save_42 : decode cX6_save 42 = .ok (.getfield 29, 3) := by decide +kernel
theorem dX6_save_45 : decode cX6_save 45 = .ok (.iconst 1, 1) := by decide +kernel
theorem dX6_save_46 : decode cX6_save 46 = .ok (.isub, 1) := by decide +kernel
theorem dX6_save_47 : decode cX6_save 47 = .ok (.putfield 29, 3) := by decide +kernel
theorem dX6_save_50 : decode cX6_save 50 = .ok (.iconst 0, 1) := by decide +kernel
theorem dX6_save_51 : decode cX6_save 51 = .ok (.istore_n 1, 1) := by decide +kernel
theorem dX6_save_52 : decode cX6_save 52 = .ok (.iload_n 1, 1) := by decide +kernel
theorem dX6_save_53 : decode cX6_save 53 = .ok (.sipush 350, 3) := by decide +kernel
theorem dX6_save_56 : decode cX6_save 56 = .ok (.if_icmp .ge 30, 3) := by decide +kernel
theorem dX6_save_59 : decode cX6_save 59 = .ok (.aload_n 0, 1) := by decide +kernel
theorem dX6_save_60 : decode cX6_save 60 = .ok (.getfield 16, 3) := by decide +kernel
theorem dX6_save_63 : decode cX6_save 63 = .ok (.sipush 350, 3) := by decide +kernel
theorem dX6_save_66 : decode cX6_save 66 = .ok (.aload_n 0, 1) := by decide +kernel
theorem dX6_save_67 : decode cX6_save 67 = .ok (.getfield 29, 3) := by decide +kernel
theorem dX6_save_70 : decode cX6_save 70 = .ok (.imul, 1) := by decide +kernel
theorem dX6_save_71 : decode cX6_save 71 = .ok (.iload_n 1, 1) := by decide +kernel
theorem dX6_save_72 : decode cX6_save 72 = .ok (.iadd, 1) := by decide +kernel
theorem dX6_save_73 : decode cX6_save 73 = .ok (.aload_n 0, 1) := by decide +kernel
theorem dX6_save_74 : decode cX6_save 74 = .ok (.getfield 7, 3) := by decide +kernel
theorem dX6_save_77 : decode cX6_save 77 = .ok (.iload_n 1, 1) := by decide +kernel
theorem dX6_save_78 : decode cX6_save 78 = .ok (.iaload, 1) := by decide +kernel
theorem dX6_save_79 : decode cX6_save 79 = .ok (.iastore, 1) := by decide +kernel
theorem dX6_save_80 : decode cX6_save 80 = .ok (.iinc 1 1, 3) := by decide +kernel
theorem dX6_save_83 : decode cX6_save 83 = .ok (.goto (-31), 3) := by decide +kernel
theorem dX6_save_86 : decode cX6_save 86 = .ok (.aload_n 0, 1) := by decide +kernel
theorem dX6_save_87 : decode cX6_save 87 = .ok (.dup, 1) := by decide +kernel
theorem dX6_save_88 : decode cX6_save 88 = .ok (.getfield 29, 3) := by decide +kernel
theorem dX6_save_91 : decode cX6_save 91 = .ok (.iconst 1, 1) := by decide +kernel
theorem dX6_save_92 : decode cX6_save 92 = .ok (.iadd, 1) := by decide +kernel
theorem dX6_save_93 : decode cX6_save 93 = .ok (.putfield 29, 3) := by decide +kernel
theorem dX6_save_96 : decode cX6_save 96 = .ok (.return_, 1) := by decide +kernel
set_option maxRecDepth 20000 in
theorem ggX6_isCan_X6_in : GoodIn wsX6_isCan wsX6_in := goodIn_r _ [4] (by decide +kernel) (by decide +kernel)
set_option maxRecDepth 20000 in
theorem gX6_isCan_X6_in : GoodIn wsX6_isCan (va_wsS RX6 32 yX6_in wsX6_in) := goodIn_app (goodIn_of _ (by decide +kernel)) ggX6_isCan_X6_in
theorem dX6_isCan_0 : decode cX6_isCan 0 = .ok (.iload_n 0, 1) := by decide +kernel
theorem dX6_isCan_1 : decode cX6_isCan 1 = .ok (.iconst 0, 1) := by decide +kernel
theorem dX6_isCan_2 : decode cX6_isCan 2 = .ok (.bipush 7, 2) := by decide +kernel
theorem dX6_isCan_4 : decode cX6_isCan 4 = .ok (.invokestatic 32, 3) := by decide +kernel
theorem dX6_isCan_7 : decode cX6_isCan 7 = .ok (.ireturn, 1) := by decide +kernel
theorem dX6_metres_0 : decode cX6_metres 0 = .ok (.aload_n 0, 1) := by decide +kernel
theorem dX6_metres_1 : decode cX6_metres 1 = .ok (.getfield 7, 3) := by decide +kernel
theorem dX6_metres_4 : decode cX6_metres 4 = .ok (.bipush 41, 2) := by decide +kernel
theorem dX6_metres_6 : decode cX6_metres 6 = .ok (.iload_n 1, 1) := by decide +kernel
theorem dX6_metres_7 : decode cX6_metres 7 = .ok (.imul, 1) := by decide +kernel
theorem dX6_metres_8 : decode cX6_metres 8 = .ok (.iaload, 1) := by decide +kernel
theorem dX6_metres_9 : decode cX6_metres 9 = .ok (.ireturn, 1) := by decide +kernel
theorem dX6_weight_0 : decode cX6_weight 0 = .ok (.aload_n 0, 1) := by decide +kernel
theorem dX6_weight_1 : decode cX6_weight 1 = .ok (.getfield 7, 3) := by decide +kernel
theorem dX6_weight_4 : decode cX6_weight 4 = .ok (.bipush 41, 2) := by decide +kernel
theorem dX6_weight_6 : decode cX6_weight 6 = .ok (.iload_n 1, 1) := by decide +kernel
theorem dX6_weight_7 : decode cX6_weight 7 = .ok (.imul, 1) := by decide +kernel
theorem dX6_weight_8 : decode cX6_weight 8 = .ok (.iconst 1, 1) := by decide +kernel
theorem dX6_weight_9 : decode cX6_weight 9 = .ok (.iadd, 1) := by decide +kernel
theorem dX6_weight_10 : decode cX6_weight 10 = .ok (.iload_n 2, 1) := by decide +kernel
theorem dX6_weight_11 : decode cX6_weight 11 = .ok (.iadd, 1) := by decide +kernel
theorem dX6_weight_12 : decode cX6_weight 12 = .ok (.iaload, 1) := by decide +kernel
theorem dX6_weight_13 : decode cX6_weight 13 = .ok (.ireturn, 1) := by decide +kernel
set_option maxRecDepth 20000 in
theorem ggX6_sum_X6_metres : GoodIn wsX6_sum wsX6_metres := goodIn_r _ [5, 6, 11, 12, 13, 14, 15, 16, 17, 18, 19, 20, 21] (by decide +kernel) (by decide +kernel)
set_option maxRecDepth 20000 in
theorem gX6_sum_X6_metres : GoodIn wsX6_sum (wsV RX6 36 RX6 yX6_metres wsX6_metres) := goodIn_app (goodIn_of _ (by decide +kernel)) ggX6_sum_X6_metres
set_option maxRecDepth 20000 in
theorem ggX6_sum_X6_weight : GoodIn wsX6_sum wsX6_weight := goodIn_r _ [10, 6, 11, 12, 13, 14, 15, 16, 17, 18, 19, 20, 21] (by decide +kernel) (by decide +kernel)
set_option maxRecDepth 20000 in
theorem gX6_sum_X6_weight : GoodIn wsX6_sum (wsV RX6 40 RX6 yX6_weight wsX6_weight) := goodIn_app (goodIn_of _ (by decide +kernel)) ggX6_sum_X6_weight
theorem dX6_sum_0 : decode cX6_sum 0 = .ok (.iconst 0, 1) := by decide +kernel
theorem dX6_sum_1 : decode cX6_sum 1 = .ok (.istore_n 2, 1) := by decide +kernel
theorem dX6_sum_2 : decode cX6_sum 2 = .ok (.iconst 0, 1) := by decide +kernel
theorem dX6_sum_3 : decode cX6_sum 3 = .ok (.istore_n 3, 1) := by decide +kernel
theorem dX6_sum_4 : decode cX6_sum 4 = .ok (.iload_n 3, 1) := by decide +kernel
theorem dX6_sum_5 : decode cX6_sum 5 = .ok (.aload_n 0, 1) := by decide +kernel
theorem dX6_sum_6 : decode cX6_sum 6 = .ok (.iload_n 1, 1) := by decide +kernel
theorem dX6_sum_7 : decode cX6_sum 7 = .ok (.invokevirtual 36, 3) := by decide +kernel
theorem dX6_sum_10 : decode cX6_sum 10 = .ok (.if_icmp .ge 18, 3) := by decide +kernel
theorem dX6_sum_13 : decode cX6_sum 13 = .ok (.iload_n 2, 1) := by decide +kernel
theorem dX6_sum_14 : decode cX6_sum 14 = .ok (.aload_n 0, 1) := by decide +kernel
theorem dX6_sum_15 : decode cX6_sum 15 = .ok (.iload_n 1, 1) := by decide +kernel
theorem dX6_sum_16 : decode cX6_sum 16 = .ok (.iload_n 3, 1) := by decide +kernel
theorem dX6_sum_17 : decode cX6_sum 17 = .ok (.invokevirtual 40, 3) := by decide +kernel
theorem dX6_sum_20 : decode cX6_sum 20 = .ok (.iadd, 1) := by decide +kernel
theorem dX6_sum_21 : decode cX6_sum 21 = .ok (.istore_n 2, 1) := by decide +kernel
theorem dX6_sum_22 : decode cX6_sum 22 = .ok (.iinc 3 1, 3) := by decide +kernel
theorem dX6_sum_25 : decode cX6_sum 25 = .ok (.goto (-21), 3) := by decide +kernel
theorem dX6_sum_28 : decode cX6_sum 28 = .ok (.iload_n 2, 1) := by decide +kernel
theorem dX6_sum_29 : decode cX6_sum 29 = .ok (.ireturn, 1) := by decide +kernel
set_option maxRecDepth 20000 in
theorem ggX6_least_X6_metres : GoodIn wsX6_least wsX6_metres := goodIn_r _ [5, 6, 11, 12, 13, 14, 15, 16, 17, 18, 19, 20, 21] (by decide +kernel) (by decide +kernel)
set_option maxRecDepth 20000 in
theorem gX6_least_X6_metres : GoodIn wsX6_least (wsV RX6 36 RX6 yX6_metres wsX6_metres) := goodIn_app (goodIn_of _ (by decide +kernel)) ggX6_least_X6_metres
set_option maxRecDepth 20000 in
theorem ggX6_least_X6_weight : GoodIn wsX6_least wsX6_weight := goodIn_r _ [10, 6, 11, 12, 13, 14, 15, 16, 17, 18, 19, 20, 21] (by decide +kernel) (by decide +kernel)
set_option maxRecDepth 20000 in
theorem gX6_least_X6_weight : GoodIn wsX6_least (wsV RX6 40 RX6 yX6_weight wsX6_weight) := goodIn_app (goodIn_of _ (by decide +kernel)) ggX6_least_X6_weight
theorem dX6_least_0 : decode cX6_least 0 = .ok (.aload_n 0, 1) := by decide +kernel
theorem dX6_least_1 : decode cX6_least 1 = .ok (.iload_n 1, 1) := by decide +kernel
theorem dX6_least_2 : decode cX6_least 2 = .ok (.invokevirtual 36, 3) := by decide +kernel
theorem dX6_least_5 : decode cX6_least 5 = .ok (.ifCond .ne 7, 3) := by decide +kernel
theorem dX6_least_8 : decode cX6_least 8 = .ok (.iconst (-1), 1) := by decide +kernel
theorem dX6_least_9 : decode cX6_least 9 = .ok (.goto 9, 3) := by decide +kernel
theorem dX6_least_12 : decode cX6_least 12 = .ok (.aload_n 0, 1) := by decide +kernel
theorem dX6_least_13 : decode cX6_least 13 = .ok (.iload_n 1, 1) := by decide +kernel
theorem dX6_least_14 : decode cX6_least 14 = .ok (.iconst 0, 1) := by decide +kernel
theorem dX6_least_15 : decode cX6_least 15 = .ok (.invokevirtual 40, 3) := by decide +kernel
theorem dX6_least_18 : decode cX6_least 18 = .ok (.istore_n 2, 1) := by decide +kernel
theorem dX6_least_19 : decode cX6_least 19 = .ok (.iconst 1, 1) := by decide +kernel
theorem dX6_least_20 : decode cX6_least 20 = .ok (.istore_n 3, 1) := by decide +kernel
theorem dX6_least_21 : decode cX6_least 21 = .ok (.iload_n 3, 1) := by decide +kernel
theorem dX6_least_22 : decode cX6_least 22 = .ok (.aload_n 0, 1) := by decide +kernel
theorem dX6_least_23 : decode cX6_least 23 = .ok (.iload_n 1, 1) := by decide +kernel
theorem dX6_least_24 : decode cX6_least 24 = .ok (.invokevirtual 36, 3) := by decide +kernel
theorem dX6_least_27 : decode cX6_least 27 = .ok (.if_icmp .ge 30, 3) := by decide +kernel
theorem dX6_least_30 : decode cX6_least 30 = .ok (.aload_n 0, 1) := by decide +kernel
theorem dX6_least_31 : decode cX6_least 31 = .ok (.iload_n 1, 1) := by decide +kernel
theorem dX6_least_32 : decode cX6_least 32 = .ok (.iload_n 3, 1) := by decide +kernel
theorem dX6_least_33 : decode cX6_least 33 = .ok (.invokevirtual 40, 3) := by decide +kernel
theorem dX6_least_36 : decode cX6_least 36 = .ok (.iload_n 2, 1) := by decide +kernel
theorem dX6_least_37 : decode cX6_least 37 = .ok (.if_icmp .ge 12, 3) := by decide +kernel
theorem dX6_least_40 : decode cX6_least 40 = .ok (.aload_n 0, 1) := by decide +kernel
theorem dX6_least_41 : decode cX6_least 41 = .ok (.iload_n 1, 1) := by decide +kernel
theorem dX6_least_42 : decode cX6_least 42 = .ok (.iload_n 3, 1) := by decide +kernel
theorem dX6_least_43 : decode cX6_least 43 = .ok (.invokevirtual 40, 3) := by decide +kernel
theorem dX6_least_46 : decode cX6_least 46 = .ok (.goto 4, 3) := by decide +kernel
theorem dX6_least_49 : decode cX6_least 49 = .ok (.iload_n 2, 1) := by decide +kernel
theorem dX6_least_50 : decode cX6_least 50 = .ok (.istore_n 2, 1) := by decide +kernel
theorem dX6_least_51 : decode cX6_least 51 = .ok (.iinc 3 1, 3) := by decide +kernel
theorem dX6_least_54 : decode cX6_least 54 = .ok (.goto (-33), 3) := by decide +kernel
theorem dX6_least_57 : decode cX6_least 57 = .ok (.iload_n 2, 1) := by decide +kernel
theorem dX6_least_58 : decode cX6_least 58 = .ok (.ireturn, 1) := by decide +kernel
set_option maxRecDepth 20000 in
theorem ggX6_greatest_X6_metres : GoodIn wsX6_greatest wsX6_metres := goodIn_r _ [5, 6, 11, 12, 13, 14, 15, 16, 17, 18, 19, 20, 21] (by decide +kernel) (by decide +kernel)
set_option maxRecDepth 20000 in
theorem gX6_greatest_X6_metres : GoodIn wsX6_greatest (wsV RX6 36 RX6 yX6_metres wsX6_metres) := goodIn_app (goodIn_of _ (by decide +kernel)) ggX6_greatest_X6_metres
set_option maxRecDepth 20000 in
theorem ggX6_greatest_X6_weight : GoodIn wsX6_greatest wsX6_weight := goodIn_r _ [10, 6, 11, 12, 13, 14, 15, 16, 17, 18, 19, 20, 21] (by decide +kernel) (by decide +kernel)
set_option maxRecDepth 20000 in
theorem gX6_greatest_X6_weight : GoodIn wsX6_greatest (wsV RX6 40 RX6 yX6_weight wsX6_weight) := goodIn_app (goodIn_of _ (by decide +kernel)) ggX6_greatest_X6_weight
theorem dX6_greatest_0 : decode cX6_greatest 0 = .ok (.iconst (-1), 1) := by decide +kernel
theorem dX6_greatest_1 : decode cX6_greatest 1 = .ok (.istore_n 2, 1) := by decide +kernel
theorem dX6_greatest_2 : decode cX6_greatest 2 = .ok (.iconst 0, 1) := by decide +kernel
theorem dX6_greatest_3 : decode cX6_greatest 3 = .ok (.istore_n 3, 1) := by decide +kernel
theorem dX6_greatest_4 : decode cX6_greatest 4 = .ok (.iload_n 3, 1) := by decide +kernel
theorem dX6_greatest_5 : decode cX6_greatest 5 = .ok (.aload_n 0, 1) := by decide +kernel
theorem dX6_greatest_6 : decode cX6_greatest 6 = .ok (.iload_n 1, 1) := by decide +kernel
theorem dX6_greatest_7 : decode cX6_greatest 7 = .ok (.invokevirtual 36, 3) := by decide +kernel
theorem dX6_greatest_10 : decode cX6_greatest 10 = .ok (.if_icmp .ge 30, 3) := by decide +kernel
theorem dX6_greatest_13 : decode cX6_greatest 13 = .ok (.aload_n 0, 1) := by decide +kernel
theorem dX6_greatest_14 : decode cX6_greatest 14 = .ok (.iload_n 1, 1) := by decide +kernel
theorem dX6_greatest_15 : decode cX6_greatest 15 = .ok (.iload_n 3, 1) := by decide +kernel
theorem dX6_greatest_16 : decode cX6_greatest 16 = .ok (.invokevirtual 40, 3) := by decide +kernel
theorem dX6_greatest_19 : decode cX6_greatest 19 = .ok (.iload_n 2, 1) := by decide +kernel
theorem dX6_greatest_20 : decode cX6_greatest 20 = .ok (.if_icmp .le 12, 3) := by decide +kernel
theorem dX6_greatest_23 : decode cX6_greatest 23 = .ok (.aload_n 0, 1) := by decide +kernel
theorem dX6_greatest_24 : decode cX6_greatest 24 = .ok (.iload_n 1, 1) := by decide +kernel
theorem dX6_greatest_25 : decode cX6_greatest 25 = .ok (.iload_n 3, 1) := by decide +kernel
theorem dX6_greatest_26 : decode cX6_greatest 26 = .ok (.invokevirtual 40, 3) := by decide +kernel
theorem dX6_greatest_29 : decode cX6_greatest 29 = .ok (.goto 4, 3) := by decide +kernel
theorem dX6_greatest_32 : decode cX6_greatest 32 = .ok (.iload_n 2, 1) := by decide +kernel
theorem dX6_greatest_33 : decode cX6_greatest 33 = .ok (.istore_n 2, 1) := by decide +kernel
theorem dX6_greatest_34 : decode cX6_greatest 34 = .ok (.iinc 3 1, 3) := by decide +kernel
theorem dX6_greatest_37 : decode cX6_greatest 37 = .ok (.goto (-33), 3) := by decide +kernel
theorem dX6_greatest_40 : decode cX6_greatest 40 = .ok (.iload_n 2, 1) := by decide +kernel
theorem dX6_greatest_41 : decode cX6_greatest 41 = .ok (.ireturn, 1) := by decide +kernel
set_option maxRecDepth 20000 in
theorem ggX6_steps_X6_metres : GoodIn wsX6_steps wsX6_metres := goodIn_r _ [5, 6, 11, 12, 13, 14, 15, 16, 17, 18, 19, 20, 21] (by decide +kernel) (by decide +kernel)
set_option maxRecDepth 20000 in
theorem gX6_steps_X6_metres : GoodIn wsX6_steps (wsV RX6 36 RX6 yX6_metres wsX6_metres) := goodIn_app (goodIn_of _ (by decide +kernel)) ggX6_steps_X6_metres
set_option maxRecDepth 20000 in
theorem ggX6_steps_X6_weight : GoodIn wsX6_steps wsX6_weight := goodIn_r _ [10, 6, 11, 12, 13, 14, 15, 16, 17, 18, 19, 20, 21] (by decide +kernel) (by decide +kernel)
set_option maxRecDepth 20000 in
theorem gX6_steps_X6_weight : GoodIn wsX6_steps (wsV RX6 40 RX6 yX6_weight wsX6_weight) := goodIn_app (goodIn_of _ (by decide +kernel)) ggX6_steps_X6_weight
theorem dX6_steps_0 : decode cX6_steps 0 = .ok (.iconst 0, 1) := by decide +kernel
theorem dX6_steps_1 : decode cX6_steps 1 = .ok (.istore_n 2, 1) := by decide +kernel
theorem dX6_steps_2 : decode cX6_steps 2 = .ok (.iconst 1, 1) := by decide +kernel
theorem dX6_steps_3 : decode cX6_steps 3 = .ok (.istore_n 3, 1) := by decide +kernel
theorem dX6_steps_4 : decode cX6_steps 4 = .ok (.iload_n 3, 1) := by decide +kernel
theorem dX6_steps_5 : decode cX6_steps 5 = .ok (.aload_n 0, 1) := by decide +kernel
theorem dX6_steps_6 : decode cX6_steps 6 = .ok (.iload_n 1, 1) := by decide +kernel
theorem dX6_steps_7 : decode cX6_steps 7 = .ok (.invokevirtual 36, 3) := by decide +kernel
theorem dX6_steps_10 : decode cX6_steps 10 = .ok (.if_icmp .ge 42, 3) := by decide +kernel
theorem dX6_steps_13 : decode cX6_steps 13 = .ok (.aload_n 0, 1) := by decide +kernel
theorem dX6_steps_14 : decode cX6_steps 14 = .ok (.iload_n 1, 1) := by decide +kernel
theorem dX6_steps_15 : decode cX6_steps 15 = .ok (.iload_n 3, 1) := by decide +kernel
theorem dX6_steps_16 : decode cX6_steps 16 = .ok (.invokevirtual 40, 3) := by decide +kernel
theorem dX6_steps_19 : decode cX6_steps 19 = .ok (.aload_n 0, 1) := by decide +kernel
theorem dX6_steps_20 : decode cX6_steps 20 = .ok (.iload_n 1, 1) := by decide +kernel
theorem dX6_steps_21 : decode cX6_steps 21 = .ok (.iload_n 3, 1) := by decide +kernel
theorem dX6_steps_22 : decode cX6_steps 22 = .ok (.iconst 1, 1) := by decide +kernel
theorem dX6_steps_23 : decode cX6_steps 23 = .ok (.isub, 1) := by decide +kernel
theorem dX6_steps_24 : decode cX6_steps 24 = .ok (.invokevirtual 40, 3) := by decide +kernel
theorem dX6_steps_27 : decode cX6_steps 27 = .ok (.isub, 1) := by decide +kernel
theorem dX6_steps_28 : decode cX6_steps 28 = .ok (.istore 4, 2) := by decide +kernel
theorem dX6_steps_30 : decode cX6_steps 30 = .ok (.iload_n 2, 1) := by decide +kernel
theorem dX6_steps_31 : decode cX6_steps 31 = .ok (.iload 4, 2) := by decide +kernel
theorem dX6_steps_33 : decode cX6_steps 33 = .ok (.ifCond .ge 9, 3) := by decide +kernel
theorem dX6_steps_36 : decode cX6_steps 36 = .ok (.iload 4, 2) := by decide +kernel
theorem dX6_steps_38 : decode cX6_steps 38 = .ok (.ineg, 1) := by decide +kernel
theorem dX6_steps_39 : decode cX6_steps 39 = .ok (.goto 5, 3) := by decide +kernel
theorem dX6_steps_42 : decode cX6_steps 42 = .ok (.iload 4, 2) := by decide +kernel
theorem dX6_steps_44 : decode cX6_steps 44 = .ok (.iadd, 1) := by decide +kernel
theorem dX6_steps_45 : decode cX6_steps 45 = .ok (.istore_n 2, 1) := by decide +kernel
theorem dX6_steps_46 : decode cX6_steps 46 = .ok (.iinc 3 1, 3) := by decide +kernel
theorem dX6_steps_49 : decode cX6_steps 49 = .ok (.goto (-45), 3) := by decide +kernel
theorem dX6_steps_52 : decode cX6_steps 52 = .ok (.iload_n 2, 1) := by decide +kernel
theorem dX6_steps_53 : decode cX6_steps 53 = .ok (.ireturn, 1) := by decide +kernel
set_option maxRecDepth 20000 in
theorem ggX6_add_X6_metres : GoodIn wsX6_add wsX6_metres := goodIn_r _ [6, 1, 7, 8, 9, 10, 11, 12, 13, 14, 15, 16, 17] (by decide +kernel) (by decide +kernel)
set_option maxRecDepth 20000 in
theorem gX6_add_X6_metres : GoodIn wsX6_add (wsV RX6 36 RX6 yX6_metres wsX6_metres) := goodIn_app (goodIn_of _ (by decide +kernel)) ggX6_add_X6_metres
theorem dX6_add_0 : decode cX6_add 0 = .ok (.aload_n 0, 1) := by decide +kernel
theorem dX6_add_1 : decode cX6_add 1 = .ok (.getfield 7, 3) := by decide +kernel
theorem dX6_add_4 : decode cX6_add 4 = .ok (.bipush 41, 2) := by decide +kernel
theorem dX6_add_6 : decode cX6_add 6 = .ok (.iload_n 1, 1) := by decide +kernel
theorem dX6_add_7 : decode cX6_add 7 = .ok (.imul, 1) := by decide +kernel
theorem dX6_add_8 : decode cX6_add 8 = .ok (.iconst 1, 1) := by decide +kernel
theorem dX6_add_9 : decode cX6_add 9 = .ok (.iadd, 1) := by decide +kernel
theorem dX6_add_10 : decode cX6_add 10 = .ok (.aload_n 0, 1) := by decide +kernel
theorem dX6_add_11 : decode cX6_add 11 = .ok (.iload_n 1, 1) := by decide +kernel
theorem dX6_add_12 : decode cX6_add 12 = .ok (.invokevirtual 36, 3) := by decide +kernel
theorem dX6_add_15 : decode cX6_add 15 = .ok (.iadd, 1) := by decide +kernel
theorem dX6_add_16 : decode cX6_add 16 = .ok (.iload_n 2, 1) := by decide +kernel
theorem dX6_add_17 : decode cX6_add 17 = .ok (.iastore, 1) := by decide +kernel
theorem dX6_add_18 : decode cX6_add 18 = .ok (.aload_n 0, 1) := by decide +kernel
theorem dX6_add_19 : decode cX6_add 19 = .ok (.getfield 7, 3) := by decide +kernel
theorem dX6_add_22 : decode cX6_add 22 = .ok (.bipush 41, 2) := by decide +kernel
theorem dX6_add_24 : decode cX6_add 24 = .ok (.iload_n 1, 1) := by decide +kernel
theorem dX6_add_25 : decode cX6_add 25 = .ok (.imul, 1) := by decide +kernel
theorem dX6_add_26 : decode cX6_add 26 = .ok (.dup2, 1) := by decide +kernel
theorem dX6_add_27 : decode cX6_add 27 = .ok (.iaload, 1) := by decide +kernel
theorem dX6_add_28 : decode cX6_add 28 = .ok (.iconst 1, 1) := by decide +kernel
theorem dX6_add_29 : decode cX6_add 29 = .ok (.iadd, 1) := by decide +kernel
theorem dX6_add_30 : decode cX6_add 30 = .ok (.iastore, 1) := by decide +kernel
theorem dX6_add_31 : decode cX6_add 31 = .ok (.return_, 1) := by decide +kernel
set_option maxRecDepth 20000 in
theorem ggX6_takeFront_X6_metres : GoodIn wsX6_takeFront wsX6_metres := goodIn_r _ [6, 1, 7, 8, 9, 10, 11, 12, 13, 14, 15, 16, 17] (by decide +kernel) (by decide +kernel)
set_option maxRecDepth 20000 in
theorem gX6_takeFront_X6_metres : GoodIn wsX6_takeFront (wsV RX6 36 RX6 yX6_metres wsX6_metres) := goodIn_app (goodIn_of _ (by decide +kernel)) ggX6_takeFront_X6_metres
theorem dX6_takeFront_0 : decode cX6_takeFront 0 = .ok (.aload_n 0, 1) := by decide +kernel
theorem dX6_takeFront_1 : decode cX6_takeFront 1 = .ok (.getfield 7, 3) := by decide +kernel
theorem dX6_takeFront_4 : decode cX6_takeFront 4 = .ok (.bipush 41, 2) := by decide +kernel
theorem dX6_takeFront_6 : decode cX6_takeFront 6 = .ok (.iload_n 1, 1) := by decide +kernel
theorem dX6_takeFront_7 : decode cX6_takeFront 7 = .ok (.imul, 1) := by decide +kernel
theorem dX6_takeFront_8 : decode cX6_takeFront 8 = .ok (.dup2, 1) := by decide +kernel
theorem dX6_takeFront_9 : decode cX6_takeFront 9 = .ok (.iaload, 1) := by decide +kernel
theorem dX6_takeFront_10 : decode cX6_takeFront 10 = .ok (.iconst 1, 1) := by decide +kernel
theorem dX6_takeFront_11 : decode cX6_takeFront 11 = .ok (.isub, 1) := by decide +kernel
theorem dX6_takeFront_12 : decode cX6_takeFront 12 = .ok (.iastore, 1) := by decide +kernel
theorem dX6_takeFront_13 : decode cX6_takeFront 13 = .ok (.iconst 0, 1) := by decide +kernel
theorem dX6_takeFront_14 : decode cX6_takeFront 14 = .ok (.istore_n 2, 1) := by decide +kernel
theorem dX6_takeFront_15 : decode cX6_takeFront 15 = .ok (.iload_n 2, 1) := by decide +kernel
theorem dX6_takeFront_16 : decode cX6_takeFront 16 = .ok (.aload_n 0, 1) := by decide +kernel
theorem dX6_takeFront_17 : decode cX6_takeFront 17 = .ok (.iload_n 1, 1) := by decide +kernel
theorem dX6_takeFront_18 : decode cX6_takeFront 18 = .ok (.invokevirtual 36, 3) := by decide +kernel
theorem dX6_takeFront_21 : decode cX6_takeFront 21 = .ok (.if_icmp .ge 35, 3) := by decide +kernel
theorem dX6_takeFront_24 : decode cX6_takeFront 24 = .ok (.aload_n 0, 1) := by decide +kernel
theorem dX6_takeFront_25 : decode cX6_takeFront 25 = .ok (.getfield 7, 3) := by decide +kernel
theorem dX6_takeFront_28 : decode cX6_takeFront 28 = .ok (.bipush 41, 2) := by decide +kernel
theorem dX6_takeFront_30 : decode cX6_takeFront 30 = .ok (.iload_n 1, 1) := by decide +kernel
theorem dX6_takeFront_31 : decode cX6_takeFront 31 = .ok (.imul, 1) := by decide +kernel
theorem dX6_takeFront_32 : decode cX6_takeFront 32 = .ok (.iconst 1, 1) := by decide +kernel
theorem dX6_takeFront_33 : decode cX6_takeFront 33 = .ok (.iadd, 1) := by decide +kernel
theorem dX6_takeFront_34 : decode cX6_takeFront 34 = .ok (.iload_n 2, 1) := by decide +kernel
theorem dX6_takeFront_35 : decode cX6_takeFront 35 = .ok (.iadd, 1) := by decide +kernel
theorem dX6_takeFront_36 : decode cX6_takeFront 36 = .ok (.aload_n 0, 1) := by decide +kernel
theorem dX6_takeFront_37 : decode cX6_takeFront 37 = .ok (.getfield 7, 3) := by decide +kernel
theorem dX6_takeFront_40 : decode cX6_takeFront 40 = .ok (.bipush 41, 2) := by decide +kernel
theorem dX6_takeFront_42 : decode cX6_takeFront 42 = .ok (.iload_n 1, 1) := by decide +kernel
theorem dX6_takeFront_43 : decode cX6_takeFront 43 = .ok (.imul, 1) := by decide +kernel
theorem dX6_takeFront_44 : decode cX6_takeFront 44 = .ok (.iconst 2, 1) := by decide +kernel
theorem dX6_takeFront_45 : decode cX6_takeFront 45 = .ok (.iadd, 1) := by decide +kernel
theorem dX6_takeFront_46 : decode cX6_takeFront 46 = .ok (.iload_n 2, 1) := by decide +kernel
theorem dX6_takeFront_47 : decode cX6_takeFront 47 = .ok (.iadd, 1) := by decide +kernel
theorem dX6_takeFront_48 : decode cX6_takeFront 48 = .ok (.iaload, 1) := by decide +kernel
theorem dX6_takeFront_49 : decode cX6_takeFront 49 = .ok (.iastore, 1) := by decide +kernel
theorem dX6_takeFront_50 : decode cX6_takeFront 50 = .ok (.iinc 2 1, 3) := by decide +kernel
theorem dX6_takeFront_53 : decode cX6_takeFront 53 = .ok (.goto (-38), 3) := by decide +kernel
theorem dX6_takeFront_56 : decode cX6_takeFront 56 = .ok (.aload_n 0, 1) := by decide +kernel
theorem dX6_takeFront_57 : decode cX6_takeFront 57 = .ok (.getfield 7, 3) := by decide +kernel
theorem dX6_takeFront_60 : decode cX6_takeFront 60 = .ok (.bipush 41, 2) := by decide +kernel
theorem dX6_takeFront_62 : decode cX6_takeFront 62 = .ok (.iload_n 1, 1) := by decide +kernel
theorem dX6_takeFront_63 : decode cX6_takeFront 63 = .ok (.imul, 1) := by decide +kernel
theorem dX6_takeFront_64 : decode cX6_takeFront 64 = .ok (.iconst 1, 1) := by decide +kernel
theorem dX6_takeFront_65 : decode cX6_takeFront 65 = .ok (.iadd, 1) := by decide +kernel
theorem dX6_takeFront_66 : decode cX6_takeFront 66 = .ok (.aload_n 0, 1) := by decide +kernel
theorem dX6_takeFront_67 : decode cX6_takeFront 67 = .ok (.iload_n 1, 1) := by decide +kernel
theorem dX6_takeFront_68 : decode cX6_takeFront 68 = .ok (.invokevirtual 36, 3) := by decide +kernel
theorem dX6_takeFront_71 : decode cX6_takeFront 71 = .ok (.iadd, 1) := by decide +kernel
theorem dX6_takeFront_72 : decode cX6_takeFront 72 = .ok (.iconst 0, 1) := by decide +kernel
theorem dX6_takeFront_73 : decode cX6_takeFront 73 = .ok (.iastore, 1) := by decide +kernel
theorem dX6_takeFront_74 : decode cX6_takeFront 74 = .ok (.return_, 1) := by decide +kernel
theorem dX6_isFed_0 : decode cX6_isFed 0 = .ok (.aload_n 0, 1) := by decide +kernel
theorem dX6_isFed_1 : decode cX6_isFed 1 = .ok (.getfield 7, 3) := by decide +kernel
theorem dX6_isFed_4 : decode cX6_isFed 4 = .ok (.sipush 328, 3) := by decide +kernel
theorem dX6_isFed_7 : decode cX6_isFed 7 = .ok (.iaload, 1) := by decide +kernel
theorem dX6_isFed_8 : decode cX6_isFed 8 = .ok (.iload_n 1, 1) := by decide +kernel
theorem dX6_isFed_9 : decode cX6_isFed 9 = .ok (.ishr, 1) := by decide +kernel
theorem dX6_isFed_10 : decode cX6_isFed 10 = .ok (.iconst 1, 1) := by decide +kernel
theorem dX6_isFed_11 : decode cX6_isFed 11 = .ok (.iand, 1) := by decide +kernel
theorem dX6_isFed_12 : decode cX6_isFed 12 = .ok (.iconst 1, 1) := by decide +kernel
theorem dX6_isFed_13 : decode cX6_isFed 13 = .ok (.if_icmp .ne 7, 3) := by decide +kernel
theorem dX6_isFed_16 : decode cX6_isFed 16 = .ok (.iconst 1, 1) := by decide +kernel
theorem dX6_isFed_17 : decode cX6_isFed 17 = .ok (.goto 4, 3) := by decide +kernel
theorem dX6_isFed_20 : decode cX6_isFed 20 = .ok (.iconst 0, 1) := by decide +kernel
theorem dX6_isFed_21 : decode cX6_isFed 21 = .ok (.ireturn, 1) := by decide +kernel
set_option maxRecDepth 20000 in
theorem ggX6_feedNow_X6_isFed : GoodIn wsX6_feedNow wsX6_isFed := goodIn_r _ [5, 6, 11, 12, 13, 14, 15, 16, 17, 18, 19, 20, 21] (by decide +kernel) (by decide +kernel)
set_option maxRecDepth 20000 in
theorem gX6_feedNow_X6_isFed : GoodIn wsX6_feedNow (wsV RX6 44 RX6 yX6_isFed wsX6_isFed) := goodIn_app (goodIn_of _ (by decide +kernel)) ggX6_feedNow_X6_isFed
set_option maxRecDepth 20000 in
theorem ggX6_feedNow_X6_weight : GoodIn wsX6_feedNow wsX6_weight := goodIn_r _ [10, 6, 11, 12, 13, 14, 15, 16, 17, 18, 19, 20, 21] (by decide +kernel) (by decide +kernel)
set_option maxRecDepth 20000 in
theorem gX6_feedNow_X6_weight : GoodIn wsX6_feedNow (wsV RX6 40 RX6 yX6_weight wsX6_weight) := goodIn_app (goodIn_of _ (by decide +kernel)) ggX6_feedNow_X6_weight
theorem dX6_feedNow_0 : decode cX6_feedNow 0 = .ok (.iconst 0, 1) := by decide +kernel
theorem dX6_feedNow_1 : decode cX6_feedNow 1 = .ok (.istore_n 1, 1) := by decide +kernel
theorem dX6_feedNow_2 : decode cX6_feedNow 2 = .ok (.iconst 0, 1) := by decide +kernel
theorem dX6_feedNow_3 : decode cX6_feedNow 3 = .ok (.istore_n 2, 1) := by decide +kernel
theorem dX6_feedNow_4 : decode cX6_feedNow 4 = .ok (.iload_n 2, 1) := by decide +kernel
theorem dX6_feedNow_5 : decode cX6_feedNow 5 = .ok (.bipush 8, 2) := by decide +kernel
theorem dX6_feedNow_7 : decode cX6_feedNow 7 = .ok (.if_icmp .ge 30, 3) := by decide +kernel
theorem dX6_feedNow_10 : decode cX6_feedNow 10 = .ok (.iload_n 1, 1) := by decide +kernel
theorem dX6_feedNow_11 : decode cX6_feedNow 11 = .ok (.aload_n 0, 1) := by decide +kernel
theorem dX6_feedNow_12 : decode cX6_feedNow 12 = .ok (.iload_n 2, 1) := by decide +kernel
theorem dX6_feedNow_13 : decode cX6_feedNow 13 = .ok (.invokevirtual 44, 3) := by decide +kernel
theorem dX6_feedNow_16 : decode cX6_feedNow 16 = .ok (.ifCond .eq 12, 3) := by decide +kernel
theorem dX6_feedNow_19 : decode cX6_feedNow 19 = .ok (.aload_n 0, 1) := by decide +kernel
theorem dX6_feedNow_20 : decode cX6_feedNow 20 = .ok (.iload_n 2, 1) := by decide +kernel
theorem dX6_feedNow_21 : decode cX6_feedNow 21 = .ok (.iconst 0, 1) := by decide +kernel
theorem dX6_feedNow_22 : decode cX6_feedNow 22 = .ok (.invokevirtual 40, 3) := by decide +kernel
theorem dX6_feedNow_25 : decode cX6_feedNow 25 = .ok (.goto 4, 3) := by decide +kernel
theorem dX6_feedNow_28 : decode cX6_feedNow 28 = .ok (.iconst 0, 1) := by decide +kernel
theorem dX6_feedNow_29 : decode cX6_feedNow 29 = .ok (.iadd, 1) := by decide +kernel
theorem dX6_feedNow_30 : decode cX6_feedNow 30 = .ok (.istore_n 1, 1) := by decide +kernel
theorem dX6_feedNow_31 : decode cX6_feedNow 31 = .ok (.iinc 2 1, 3) := by decide +kernel
theorem dX6_feedNow_34 : decode cX6_feedNow 34 = .ok (.goto (-30), 3) := by decide +kernel
theorem dX6_feedNow_37 : decode cX6_feedNow 37 = .ok (.iload_n 1, 1) := by decide +kernel
theorem dX6_feedNow_38 : decode cX6_feedNow 38 = .ok (.ireturn, 1) := by decide +kernel
theorem dX6_forget_0 : decode cX6_forget 0 = .ok (.iconst 0, 1) := by decide +kernel
theorem dX6_forget_1 : decode cX6_forget 1 = .ok (.istore_n 1, 1) := by decide +kernel
theorem dX6_forget_2 : decode cX6_forget 2 = .ok (.iload_n 1, 1) := by decide +kernel
theorem dX6_forget_3 : decode cX6_forget 3 = .ok (.bipush 7, 2) := by decide +kernel
theorem dX6_forget_5 : decode cX6_forget 5 = .ok (.if_icmp .gt 20, 3) := by decide +kernel
theorem dX6_forget_8 : decode cX6_forget 8 = .ok (.aload_n 0, 1) := by decide +kernel
theorem dX6_forget_9 : decode cX6_forget 9 = .ok (.getfield 7, 3) := by decide +kernel
theorem dX6_forget_12 : decode cX6_forget 12 = .ok (.sipush 332, 3) := by decide +kernel
theorem dX6_forget_15 : decode cX6_forget 15 = .ok (.iload_n 1, 1) := by decide +kernel
theorem dX6_forget_16 : decode cX6_forget 16 = .ok (.iadd, 1) := by decide +kernel
theorem dX6_forget_17 : decode cX6_forget 17 = .ok (.iconst 0, 1) := by decide +kernel
theorem dX6_forget_18 : decode cX6_forget 18 = .ok (.iastore, 1) := by decide +kernel
theorem dX6_forget_19 : decode cX6_forget 19 = .ok (.iinc 1 1, 3) := by decide +kernel
theorem dX6_forget_22 : decode cX6_forget 22 = .ok (.goto (-20), 3) := by decide +kernel
theorem dX6_forget_25 : decode cX6_forget 25 = .ok (.return_, 1) := by decide +kernel
theorem dX6_tells_0 : decode cX6_tells 0 = .ok (.aload_n 0, 1) := by decide +kernel
theorem dX6_tells_1 : decode cX6_tells 1 = .ok (.getfield 7, 3) := by decide +kernel
theorem dX6_tells_4 : decode cX6_tells 4 = .ok (.sipush 340, 3) := by decide +kernel
theorem dX6_tells_7 : decode cX6_tells 7 = .ok (.iaload, 1) := by decide +kernel
theorem dX6_tells_8 : decode cX6_tells 8 = .ok (.istore_n 2, 1) := by decide +kernel
theorem dX6_tells_9 : decode cX6_tells 9 = .ok (.iload_n 2, 1) := by decide +kernel
theorem dX6_tells_10 : decode cX6_tells 10 = .ok (.ifCond .ne 7, 3) := by decide +kernel
theorem dX6_tells_13 : decode cX6_tells 13 = .ok (.iload_n 1, 1) := by decide +kernel
theorem dX6_tells_14 : decode cX6_tells 14 = .ok (.goto 31, 3) := by decide +kernel
theorem dX6_tells_17 : decode cX6_tells 17 = .ok (.iload_n 2, 1) := by decide +kernel
theorem dX6_tells_18 : decode cX6_tells 18 = .ok (.aload_n 0, 1) := by decide +kernel
theorem dX6_tells_19 : decode cX6_tells 19 = .ok (.getfield 7, 3) := by decide +kernel
theorem dX6_tells_22 : decode cX6_tells 22 = .ok (.sipush 332, 3) := by decide +kernel
theorem dX6_tells_25 : decode cX6_tells 25 = .ok (.iaload, 1) := by decide +kernel
theorem dX6_tells_26 : decode cX6_tells 26 = .ok (.if_icmp .gt 18, 3) := by decide +kernel
theorem dX6_tells_29 : decode cX6_tells 29 = .ok (.aload_n 0, 1) := by decide +kernel
theorem dX6_tells_30 : decode cX6_tells 30 = .ok (.getfield 7, 3) := by decide +kernel
theorem dX6_tells_33 : decode cX6_tells 33 = .ok (.sipush 333, 3) := by decide +kernel
theorem dX6_tells_36 : decode cX6_tells 36 = .ok (.iload_n 2, 1) := by decide +kernel
theorem dX6_tells_37 : decode cX6_tells 37 = .ok (.iadd, 1) := by decide +kernel
theorem dX6_tells_38 : decode cX6_tells 38 = .ok (.iconst 1, 1) := by decide +kernel
theorem dX6_tells_39 : decode cX6_tells 39 = .ok (.isub, 1) := by decide +kernel
theorem dX6_tells_40 : decode cX6_tells 40 = .ok (.iaload, 1) := by decide +kernel
theorem dX6_tells_41 : decode cX6_tells 41 = .ok (.goto 4, 3) := by decide +kernel
theorem dX6_tells_44 : decode cX6_tells 44 = .ok (.iconst (-1), 1) := by decide +kernel
theorem dX6_tells_45 : decode cX6_tells 45 = .ok (.ireturn, 1) := by decide +kernel
set_option maxRecDepth 20000 in
theorem ggX6_draftFor_X6_tells : GoodIn wsX6_draftFor wsX6_tells := goodIn_r _ [6, 1, 7, 8, 9, 10, 11, 12, 13, 14, 15, 16, 17] (by decide +kernel) (by decide +kernel)
set_option maxRecDepth 20000 in
theorem gX6_draftFor_X6_tells : GoodIn wsX6_draftFor (wsV RX6 48 RX6 yX6_tells wsX6_tells) := goodIn_app (goodIn_of _ (by decide +kernel)) ggX6_draftFor_X6_tells
theorem dX6_draftFor_0 : decode cX6_draftFor 0 = .ok (.aload_n 0, 1) := by decide +kernel
theorem dX6_draftFor_1 : decode cX6_draftFor 1 = .ok (.iload_n 1, 1) := by decide +kernel
theorem dX6_draftFor_2 : decode cX6_draftFor 2 = .ok (.invokevirtual 48, 3) := by decide +kernel
theorem dX6_draftFor_5 : decode cX6_draftFor 5 = .ok (.istore_n 2, 1) := by decide +kernel
theorem dX6_draftFor_6 : decode cX6_draftFor 6 = .ok (.aload_n 0, 1) := by decide +kernel
theorem dX6_draftFor_7 : decode cX6_draftFor 7 = .ok (.getfield 7, 3) := by decide +kernel
theorem dX6_draftFor_10 : decode cX6_draftFor 10 = .ok (.sipush 343, 3) := by decide +kernel
theorem dX6_draftFor_13 : decode cX6_draftFor 13 = .ok (.iaload, 1) := by decide +kernel
theorem dX6_draftFor_14 : decode cX6_draftFor 14 = .ok (.ifCond .eq 8, 3) := by decide +kernel
theorem dX6_draftFor_17 : decode cX6_draftFor 17 = .ok (.iload_n 2, 1) := by decide +kernel
theorem dX6_draftFor_18 : decode cX6_draftFor 18 = .ok (.iconst (-1), 1) := by decide +kernel
theorem dX6_draftFor_19 : decode cX6_draftFor 19 = .ok (.if_icmp .ne 12, 3) := by decide +kernel
theorem dX6_draftFor_22 : decode cX6_draftFor 22 = .ok (.aload_n 0, 1) := by decide +kernel
theorem dX6_draftFor_23 : decode cX6_draftFor 23 = .ok (.getfield 7, 3) := by decide +kernel
theorem dX6_draftFor_26 : decode cX6_draftFor 26 = .ok (.sipush 341, 3) := by decide +kernel
theorem dX6_draftFor_29 : decode cX6_draftFor 29 = .ok (.iaload, 1) := by decide +kernel
theorem dX6_draftFor_30 : decode cX6_draftFor 30 = .ok (.ireturn, 1) := by decide +kernel
theorem dX6_draftFor_31 : decode cX6_draftFor 31 = .ok (.aload_n 0, 1) := by decide +kernel
theorem dX6_draftFor_32 : decode cX6_draftFor 32 = .ok (.getfield 7, 3) := by decide +kernel
theorem dX6_draftFor_35 : decode cX6_draftFor 35 = .ok (.sipush 342, 3) := by decide +kernel
theorem dX6_draftFor_38 : decode cX6_draftFor 38 = .ok (.iaload, 1) := by decide +kernel
theorem dX6_draftFor_39 : decode cX6_draftFor 39 = .ok (.istore_n 3, 1) := by decide +kernel
theorem dX6_draftFor_40 : decode cX6_draftFor 40 = .ok (.iconst 2, 1) := by decide +kernel
theorem dX6_draftFor_41 : decode cX6_draftFor 41 = .ok (.iload_n 2, 1) := by decide +kernel
theorem dX6_draftFor_42 : decode cX6_draftFor 42 = .ok (.imul, 1) := by decide +kernel
theorem dX6_draftFor_43 : decode cX6_draftFor 43 = .ok (.iload_n 3, 1) := by decide +kernel
theorem dX6_draftFor_44 : decode cX6_draftFor 44 = .ok (.iadd, 1) := by decide +kernel
theorem dX6_draftFor_45 : decode cX6_draftFor 45 = .ok (.iconst 2, 1) := by decide +kernel
theorem dX6_draftFor_46 : decode cX6_draftFor 46 = .ok (.iload_n 3, 1) := by decide +kernel
theorem dX6_draftFor_47 : decode cX6_draftFor 47 = .ok (.imul, 1) := by decide +kernel
theorem dX6_draftFor_48 : decode cX6_draftFor 48 = .ok (.idiv, 1) := by decide +kernel
theorem dX6_draftFor_49 : decode cX6_draftFor 49 = .ok (.istore 4, 2) := by decide +kernel
theorem dX6_draftFor_51 : decode cX6_draftFor 51 = .ok (.iload 4, 2) := by decide +kernel
theorem dX6_draftFor_53 : decode cX6_draftFor 53 = .ok (.iconst 1, 1) := by decide +kernel
theorem dX6_draftFor_54 : decode cX6_draftFor 54 = .ok (.if_icmp .ge 7, 3) := by decide +kernel
theorem dX6_draftFor_57 : decode cX6_draftFor 57 = .ok (.iconst 1, 1) := by decide +kernel
theorem dX6_draftFor_58 : decode cX6_draftFor 58 = .ok (.goto 17, 3) := by decide +kernel
theorem dX6_draftFor_61 : decode cX6_draftFor 61 = .ok (.iload 4, 2) := by decide +kernel
theorem dX6_draftFor_63 : decode cX6_draftFor 63 = .ok (.bipush 8, 2) := by decide +kernel
theorem dX6_draftFor_65 : decode cX6_draftFor 65 = .ok (.if_icmp .le 8, 3) := by decide +kernel
theorem dX6_draftFor_68 : decode cX6_draftFor 68 = .ok (.bipush 8, 2) := by decide +kernel
theorem dX6_draftFor_70 : decode cX6_draftFor 70 = .ok (.goto 5, 3) := by decide +kernel
theorem dX6_draftFor_73 : decode cX6_draftFor 73 = .ok (.iload 4, 2) := by decide +kernel
theorem dX6_draftFor_75 : decode cX6_draftFor 75 = .ok (.ireturn, 1) := by decide +kernel
set_option maxRecDepth 20000 in
theorem ggX6_reason_X6_isFed : GoodIn wsX6_reason wsX6_isFed := goodIn_r _ [6, 1, 27, 28, 29, 30, 31, 32, 33, 34, 35, 36, 37] (by decide +kernel) (by decide +kernel)
set_option maxRecDepth 20000 in
theorem gX6_reason_X6_isFed : GoodIn wsX6_reason (wsV RX6 44 RX6 yX6_isFed wsX6_isFed) := goodIn_app (goodIn_of _ (by decide +kernel)) ggX6_reason_X6_isFed
set_option maxRecDepth 20000 in
theorem ggX6_reason_X6_metres : GoodIn wsX6_reason wsX6_metres := goodIn_r _ [10, 1, 27, 28, 29, 30, 31, 32, 33, 34, 35, 36, 37] (by decide +kernel) (by decide +kernel)
set_option maxRecDepth 20000 in
theorem gX6_reason_X6_metres : GoodIn wsX6_reason (wsV RX6 36 RX6 yX6_metres wsX6_metres) := goodIn_app (goodIn_of _ (by decide +kernel)) ggX6_reason_X6_metres
set_option maxRecDepth 20000 in
theorem ggX6_reason_X6_feedNow : GoodIn wsX6_reason wsX6_feedNow := goodIn_r _ [14, 2, 3, 4, 5, 6, 1, 15, 16, 17, 18, 27, 28, 29, 30, 31, 32, 33, 34, 35, 36, 37] (by decide +kernel) (by decide +kernel)
set_option maxRecDepth 20000 in
theorem gX6_reason_X6_feedNow : GoodIn wsX6_reason (wsV RX6 51 RX6 yX6_feedNow wsX6_feedNow) := goodIn_app (goodIn_of _ (by decide +kernel)) ggX6_reason_X6_feedNow
set_option maxRecDepth 20000 in
theorem ggX6_reason_X6_draftFor : GoodIn wsX6_reason wsX6_draftFor := goodIn_r _ [22, 1, 23, 24, 25, 5, 26, 27, 28, 29, 30, 31, 32, 33, 34, 35, 36, 37] (by decide +kernel) (by decide +kernel)
set_option maxRecDepth 20000 in
theorem gX6_reason_X6_draftFor : GoodIn wsX6_reason (wsV RX6 55 RX6 yX6_draftFor wsX6_draftFor) := goodIn_app (goodIn_of _ (by decide +kernel)) ggX6_reason_X6_draftFor
theorem dX6_reason_0 : decode cX6_reason 0 = .ok (.aload_n 0, 1) := by decide +kernel
theorem dX6_reason_1 : decode cX6_reason 1 = .ok (.getfield 7, 3) := by decide +kernel
theorem dX6_reason_4 : decode cX6_reason 4 = .ok (.sipush 330, 3) := by decide +kernel
theorem dX6_reason_7 : decode cX6_reason 7 = .ok (.iaload, 1) := by decide +kernel
theorem dX6_reason_8 : decode cX6_reason 8 = .ok (.iconst 1, 1) := by decide +kernel
theorem dX6_reason_9 : decode cX6_reason 9 = .ok (.if_icmp .ne 5, 3) := by decide +kernel
theorem dX6_reason_12 : decode cX6_reason 12 = .ok (.iconst 1, 1) := by decide +kernel
theorem dX6_reason_13 : decode cX6_reason 13 = .ok (.ireturn, 1) := by decide +kernel
theorem dX6_reason_14 : decode cX6_reason 14 = .ok (.aload_n 0, 1) := by decide +kernel
theorem dX6_reason_15 : decode cX6_reason 15 = .ok (.getfield 7, 3) := by decide +kernel
theorem dX6_reason_18 : decode cX6_reason 18 = .ok (.sipush 328, 3) := by decide +kernel
theorem dX6_reason_21 : decode cX6_reason 21 = .ok (.iaload, 1) := by decide +kernel
theorem dX6_reason_22 : decode cX6_reason 22 = .ok (.ifCond .ne 5, 3) := by decide +kernel
theorem dX6_reason_25 : decode cX6_reason 25 = .ok (.iconst 2, 1) := by decide +kernel
theorem dX6_reason_26 : decode cX6_reason 26 = .ok (.ireturn, 1) := by decide +kernel
theorem dX6_reason_27 : decode cX6_reason 27 = .ok (.aload_n 0, 1) := by decide +kernel
theorem dX6_reason_28 : decode cX6_reason 28 = .ok (.aload_n 0, 1) := by decide +kernel
theorem dX6_reason_29 : decode cX6_reason 29 = .ok (.getfield 7, 3) := by decide +kernel
theorem dX6_reason_32 : decode cX6_reason 32 = .ok (.sipush 329, 3) := by decide +kernel
theorem dX6_reason_35 : decode cX6_reason 35 = .ok (.iaload, 1) := by decide +kernel
theorem dX6_reason_36 : decode cX6_reason 36 = .ok (.invokevirtual 44, 3) := by decide +kernel
theorem dX6_reason_39 : decode cX6_reason 39 = .ok (.ifCond .eq 5, 3) := by decide +kernel
theorem dX6_reason_42 : decode cX6_reason 42 = .ok (.iconst 3, 1) := by decide +kernel
theorem dX6_reason_43 : decode cX6_reason 43 = .ok (.ireturn, 1) := by decide +kernel
theorem dX6_reason_44 : decode cX6_reason 44 = .ok (.iconst 0, 1) := by decide +kernel
theorem dX6_reason_45 : decode cX6_reason 45 = .ok (.istore_n 1, 1) := by decide +kernel
theorem dX6_reason_46 : decode cX6_reason 46 = .ok (.iload_n 1, 1) := by decide +kernel
theorem dX6_reason_47 : decode cX6_reason 47 = .ok (.bipush 8, 2) := by decide +kernel
theorem dX6_reason_49 : decode cX6_reason 49 = .ok (.if_icmp .ge 27, 3) := by decide +kernel
theorem dX6_reason_52 : decode cX6_reason 52 = .ok (.aload_n 0, 1) := by decide +kernel
theorem dX6_reason_53 : decode cX6_reason 53 = .ok (.iload_n 1, 1) := by decide +kernel
theorem dX6_reason_54 : decode cX6_reason 54 = .ok (.invokevirtual 44, 3) := by decide +kernel
theorem dX6_reason_57 : decode cX6_reason 57 = .ok (.ifCond .eq 13, 3) := by decide +kernel
theorem dX6_reason_60 : decode cX6_reason 60 = .ok (.aload_n 0, 1) := by decide +kernel
theorem dX6_reason_61 : decode cX6_reason 61 = .ok (.iload_n 1, 1) := by decide +kernel
theorem dX6_reason_62 : decode cX6_reason 62 = .ok (.invokevirtual 36, 3) := by decide +kernel
theorem dX6_reason_65 : decode cX6_reason 65 = .ok (.ifCond .ne 5, 3) := by decide +kernel
theorem dX6_reason_68 : decode cX6_reason 68 = .ok (.iconst 4, 1) := by decide +kernel
theorem dX6_reason_69 : decode cX6_reason 69 = .ok (.ireturn, 1) := by decide +kernel
theorem dX6_reason_70 : decode cX6_reason 70 = .ok (.iinc 1 1, 3) := by decide +kernel
theorem dX6_reason_73 : decode cX6_reason 73 = .ok (.goto (-27), 3) := by decide +kernel
theorem dX6_reason_76 : decode cX6_reason 76 = .ok (.aload_n 0, 1) := by decide +kernel
theorem dX6_reason_77 : decode cX6_reason 77 = .ok (.aload_n 0, 1) := by decide +kernel
theorem dX6_reason_78 : decode cX6_reason 78 = .ok (.getfield 7, 3) := by decide +kernel
theorem dX6_reason_81 : decode cX6_reason 81 = .ok (.sipush 329, 3) := by decide +kernel
theorem dX6_reason_84 : decode cX6_reason 84 = .ok (.iaload, 1) := by decide +kernel
theorem dX6_reason_85 : decode cX6_reason 85 = .ok (.invokevirtual 36, 3) := by decide +kernel
theorem dX6_reason_88 : decode cX6_reason 88 = .ok (.aload_n 0, 1) := by decide +kernel
theorem dX6_reason_89 : decode cX6_reason 89 = .ok (.aload_n 0, 1) := by decide +kernel
theorem dX6_reason_90 : decode cX6_reason 90 = .ok (.invokevirtual 51, 3) := by decide +kernel
theorem dX6_reason_93 : decode cX6_reason 93 = .ok (.invokevirtual 55, 3) := by decide +kernel
theorem dX6_reason_96 : decode cX6_reason 96 = .ok (.iadd, 1) := by decide +kernel
theorem dX6_reason_97 : decode cX6_reason 97 = .ok (.bipush 40, 2) := by decide +kernel
theorem dX6_reason_99 : decode cX6_reason 99 = .ok (.if_icmp .le 7, 3) := by decide +kernel
theorem dX6_reason_102 : decode cX6_reason 102 = .ok (.iconst 5, 1) := by decide +kernel
theorem dX6_reason_103 : decode cX6_reason 103 = .ok (.goto 4, 3) := by decide +kernel
theorem dX6_reason_106 : decode cX6_reason 106 = .ok (.iconst 0, 1) := by decide +kernel
theorem dX6_reason_107 : decode cX6_reason 107 = .ok (.ireturn, 1) := by decide +kernel
set_option maxRecDepth 20000 in
theorem ggX6_step_X6_feedNow : GoodIn wsX6_step wsX6_feedNow := goodIn_r _ [6, 7, 8, 9, 5, 10, 1, 11, 12, 13, 14, 35, 36, 37, 38, 39, 40, 41, 42, 43, 44, 45] (by decide +kernel) (by decide +kernel)
set_option maxRecDepth 20000 in
theorem gX6_step_X6_feedNow : GoodIn wsX6_step (wsV RX6 51 RX6 yX6_feedNow wsX6_feedNow) := goodIn_app (goodIn_of _ (by decide +kernel)) ggX6_step_X6_feedNow
set_option maxRecDepth 20000 in
theorem ggX6_step_X6_draftFor : GoodIn wsX6_step wsX6_draftFor := goodIn_r _ [18, 1, 19, 20, 21, 5, 22, 35, 36, 37, 38, 39, 40, 41, 42, 43, 44, 45] (by decide +kernel) (by decide +kernel)
set_option maxRecDepth 20000 in
theorem gX6_step_X6_draftFor : GoodIn wsX6_step (wsV RX6 55 RX6 yX6_draftFor wsX6_draftFor) := goodIn_app (goodIn_of _ (by decide +kernel)) ggX6_step_X6_draftFor
set_option maxRecDepth 20000 in
theorem ggX6_step_X6_isFed : GoodIn wsX6_step wsX6_isFed := goodIn_r _ [10, 1, 35, 36, 37, 38, 39, 40, 41, 42, 43, 44, 45] (by decide +kernel) (by decide +kernel)
set_option maxRecDepth 20000 in
theorem gX6_step_X6_isFed : GoodIn wsX6_step (wsV RX6 44 RX6 yX6_isFed wsX6_isFed) := goodIn_app (goodIn_of _ (by decide +kernel)) ggX6_step_X6_isFed
set_option maxRecDepth 20000 in
theorem ggX6_step_X6_takeFront : GoodIn wsX6_step wsX6_takeFront := goodIn_r _ [26, 1, 27, 28, 29, 5, 30, 35, 36, 37, 38, 39, 40, 41, 42, 43, 44, 45] (by decide +kernel) (by decide +kernel)
set_option maxRecDepth 20000 in
theorem gX6_step_X6_takeFront : GoodIn wsX6_step (wsV RX6 58 RX6 yX6_takeFront wsX6_takeFront) := goodIn_app (goodIn_of _ (by decide +kernel)) ggX6_step_X6_takeFront
set_option maxRecDepth 20000 in
theorem ggX6_step_X6_add : GoodIn wsX6_step wsX6_add := goodIn_r _ [34, 1, 27, 28, 29, 5, 30, 35, 36, 37, 38, 39, 40, 41, 42, 43, 44, 45] (by decide +kernel) (by decide +kernel)
set_option maxRecDepth 20000 in
theorem gX6_step_X6_add : GoodIn wsX6_step (wsV RX6 62 RX6 yX6_add wsX6_add) := goodIn_app (goodIn_of _ (by decide +kernel)) ggX6_step_X6_add
theorem dX6_step_0 : decode cX6_step 0 = .ok (.aload_n 0, 1) := by decide +kernel
theorem dX6_step_1 : decode cX6_step 1 = .ok (.invokevirtual 51, 3) := by decide +kernel
theorem dX6_step_4 : decode cX6_step 4 = .ok (.istore_n 1, 1) := by decide +kernel
theorem dX6_step_5 : decode cX6_step 5 = .ok (.aload_n 0, 1) := by decide +kernel
theorem dX6_step_6 : decode cX6_step 6 = .ok (.iload_n 1, 1) := by decide +kernel
theorem dX6_step_7 : decode cX6_step 7 = .ok (.invokevirtual 55, 3) := by decide +kernel
theorem dX6_step_10 : decode cX6_step 10 = .ok (.istore_n 2, 1) := by decide +kernel
theorem dX6_step_11 : decode cX6_step 11 = .ok (.iconst 0, 1) := by decide +kernel
theorem dX6_step_12 : decode cX6_step 12 = .ok (.istore_n 3, 1) := by decide +kernel
theorem dX6_step_13 : decode cX6_step 13 = .ok (.iload_n 3, 1) := by decide +kernel
theorem dX6_step_14 : decode cX6_step 14 = .ok (.bipush 8, 2) := by decide +kernel
theorem dX6_step_16 : decode cX6_step 16 = .ok (.if_icmp .ge 22, 3) := by decide +kernel
theorem dX6_step_19 : decode cX6_step 19 = .ok (.aload_n 0, 1) := by decide +kernel
theorem dX6_step_20 : decode cX6_step 20 = .ok (.iload_n 3, 1) := by decide +kernel
theorem dX6_step_21 : decode cX6_step 21 = .ok (.invokevirtual 44, 3) := by decide +kernel
theorem dX6_step_24 : decode cX6_step 24 = .ok (.ifCond .eq 8, 3) := by decide +kernel
theorem dX6_step_27 : decode cX6_step 27 = .ok (.aload_n 0, 1) := by decide +kernel
theorem dX6_step_28 : decode cX6_step 28 = .ok (.iload_n 3, 1) := by decide +kernel
theorem dX6_step_29 : decode cX6_step 29 = .ok (.invokevirtual 58, 3) := by decide +kernel
theorem dX6_step_32 : decode cX6_step 32 = .ok (.iinc 3 1, 3) := by decide +kernel
theorem dX6_step_35 : decode cX6_step 35 = .ok (.goto (-22), 3) := by decide +kernel
theorem dX6_step_38 : decode cX6_step 38 = .ok (.bipush 6, 2) := by decide +kernel
theorem dX6_step_40 : decode cX6_step 40 = .ok (.istore_n 3, 1) := by decide +kernel
theorem dX6_step_41 : decode cX6_step 41 = .ok (.iload_n 3, 1) := by decide +kernel
theorem dX6_step_42 : decode cX6_step 42 = .ok (.ifCond .le 31, 3) := by decide +kernel
theorem dX6_step_45 : decode cX6_step 45 = .ok (.aload_n 0, 1) := by decide +kernel
theorem dX6_step_46 : decode cX6_step 46 = .ok (.getfield 7, 3) := by decide +kernel
theorem dX6_step_49 : decode cX6_step 49 = .ok (.sipush 333, 3) := by decide +kernel
theorem dX6_step_52 : decode cX6_step 52 = .ok (.iload_n 3, 1) := by decide +kernel
theorem dX6_step_53 : decode cX6_step 53 = .ok (.iadd, 1) := by decide +kernel
theorem dX6_step_54 : decode cX6_step 54 = .ok (.aload_n 0, 1) := by decide +kernel
theorem dX6_step_55 : decode cX6_step 55 = .ok (.getfield 7, 3) := by decide +kernel
theorem dX6_step_58 : decode cX6_step 58 = .ok (.sipush 333, 3) := by decide +kernel
theorem dX6_step_61 : decode cX6_step 61 = .ok (.iload_n 3, 1) := by decide +kernel
theorem dX6_step_62 : decode cX6_step 62 = .ok (.iadd, 1) := by decide +kernel
theorem dX6_step_63 : decode cX6_step 63 = .ok (.iconst 1, 1) := by decide +kernel
theorem dX6_step_64 : decode cX6_step 64 = .ok (.isub, 1) := by decide +kernel
theorem dX6_step_65 : decode cX6_step 65 = .ok (.iaload, 1) := by decide +kernel
theorem dX6_step_66 : decode cX6_step 66 = .ok (.iastore, 1) := by decide +kernel
theorem dX6_step_67 : decode cX6_step 67 = .ok (.iinc 3 (-1), 3) := by decide +kernel
theorem dX6_step_70 : decode cX6_step 70 = .ok (.goto (-29), 3) := by decide +kernel
theorem dX6_step_73 : decode cX6_step 73 = .ok (.aload_n 0, 1) := by decide +kernel
theorem dX6_step_74 : decode cX6_step 74 = .ok (.getfield 7, 3) := by decide +kernel
theorem dX6_step_77 : decode cX6_step 77 = .ok (.sipush 333, 3) := by decide +kernel
theorem dX6_step_80 : decode cX6_step 80 = .ok (.iload_n 1, 1) := by decide +kernel
theorem dX6_step_81 : decode cX6_step 81 = .ok (.iastore, 1) := by decide +kernel
theorem dX6_step_82 : decode cX6_step 82 = .ok (.aload_n 0, 1) := by decide +kernel
theorem dX6_step_83 : decode cX6_step 83 = .ok (.getfield 7, 3) := by decide +kernel
theorem dX6_step_86 : decode cX6_step 86 = .ok (.sipush 332, 3) := by decide +kernel
theorem dX6_step_89 : decode cX6_step 89 = .ok (.dup2, 1) := by decide +kernel
theorem dX6_step_90 : decode cX6_step 90 = .ok (.iaload, 1) := by decide +kernel
theorem dX6_step_91 : decode cX6_step 91 = .ok (.aload_n 0, 1) := by decide +kernel
theorem dX6_step_92 : decode cX6_step 92 = .ok (.getfield 7, 3) := by decide +kernel
theorem dX6_step_95 : decode cX6_step 95 = .ok (.sipush 332, 3) := by decide +kernel
theorem dX6_step_98 : decode cX6_step 98 = .ok (.iaload, 1) := by decide +kernel
theorem dX6_step_99 : decode cX6_step 99 = .ok (.bipush 7, 2) := by decide +kernel
theorem dX6_step_101 : decode cX6_step 101 = .ok (.if_icmp .ge 7, 3) := by decide +kernel
theorem dX6_step_104 : decode cX6_step 104 = .ok (.iconst 1, 1) := by decide +kernel
theorem dX6_step_105 : decode cX6_step 105 = .ok (.goto 4, 3) := by decide +kernel
theorem dX6_step_108 : decode cX6_step 108 = .ok (.iconst 0, 1) := by decide +kernel
theorem dX6_step_109 : decode cX6_step 109 = .ok (.iadd, 1) := by decide +kernel
theorem dX6_step_110 : decode cX6_step 110 = .ok (.iastore, 1) := by decide +kernel
theorem dX6_step_111 : decode cX6_step 111 = .ok (.aload_n 0, 1) := by decide +kernel
theorem dX6_step_112 : decode cX6_step 112 = .ok (.getfield 7, 3) := by decide +kernel
theorem dX6_step_115 : decode cX6_step 115 = .ok (.sipush 331, 3) := by decide +kernel
theorem dX6_step_118 : decode cX6_step 118 = .ok (.iload_n 2, 1) := by decide +kernel
theorem dX6_step_119 : decode cX6_step 119 = .ok (.iastore, 1) := by decide +kernel
theorem dX6_step_120 : decode cX6_step 120 = .ok (.iconst 0, 1) := by decide +kernel
theorem dX6_step_121 : decode cX6_step 121 = .ok (.istore_n 3, 1) := by decide +kernel
theorem dX6_step_122 : decode cX6_step 122 = .ok (.iload_n 3, 1) := by decide +kernel
theorem dX6_step_123 : decode cX6_step 123 = .ok (.iload_n 2, 1) := by decide +kernel
theorem dX6_step_124 : decode cX6_step 124 = .ok (.if_icmp .ge 103, 3) := by decide +kernel
theorem dX6_step_127 : decode cX6_step 127 = .ok (.iload_n 1, 1) := by decide +kernel
theorem dX6_step_128 : decode cX6_step 128 = .ok (.iload_n 2, 1) := by decide +kernel
theorem dX6_step_129 : decode cX6_step 129 = .ok (.idiv, 1) := by decide +kernel
theorem dX6_step_130 : decode cX6_step 130 = .ok (.iload_n 3, 1) := by decide +kernel
theorem dX6_step_131 : decode cX6_step 131 = .ok (.iload_n 1, 1) := by decide +kernel
theorem dX6_step_132 : decode cX6_step 132 = .ok (.iload_n 2, 1) := by decide +kernel
theorem dX6_step_133 : decode cX6_step 133 = .ok (.irem, 1) := by decide +kernel
theorem dX6_step_134 : decode cX6_step 134 = .ok (.if_icmp .ge 7, 3) := by decide +kernel
theorem dX6_step_137 : decode cX6_step 137 = .ok (.iconst 1, 1) := by decide +kernel
theorem dX6_step_138 : decode cX6_step 138 = .ok (.goto 4, 3) := by decide +kernel
theorem dX6_step_141 : decode cX6_step 141 = .ok (.iconst 0, 1) := by decide +kernel
theorem dX6_step_142 : decode cX6_step 142 = .ok (.iadd, 1) := by decide +kernel
theorem dX6_step_143 : decode cX6_step 143 = .ok (.istore 4, 2) := by decide +kernel
theorem dX6_step_145 : decode cX6_step 145 = .ok (.iload 4, 2) := by decide +kernel
theorem dX6_step_147 : decode cX6_step 147 = .ok (.aload_n 0, 1) := by decide +kernel
theorem dX6_step_148 : decode cX6_step 148 = .ok (.getfield 7, 3) := by decide +kernel
theorem dX6_step_151 : decode cX6_step 151 = .ok (.sipush 344, 3) := by decide +kernel
theorem dX6_step_154 : decode cX6_step 154 = .ok (.iaload, 1) := by decide +kernel
theorem dX6_step_155 : decode cX6_step 155 = .ok (.if_icmp .le 40, 3) := by decide +kernel
theorem dX6_step_158 : decode cX6_step 158 = .ok (.aload_n 0, 1) := by decide +kernel
theorem dX6_step_159 : decode cX6_step 159 = .ok (.getfield 7, 3) := by decide +kernel
theorem dX6_step_162 : decode cX6_step 162 = .ok (.sipush 346, 3) := by decide +kernel
theorem dX6_step_165 : decode cX6_step 165 = .ok (.dup2, 1) := by decide +kernel
theorem dX6_step_166 : decode cX6_step 166 = .ok (.iaload, 1) := by decide +kernel
theorem dX6_step_167 : decode cX6_step 167 = .ok (.iconst 1, 1) := by decide +kernel
theorem dX6_step_168 : decode cX6_step 168 = .ok (.iadd, 1) := by decide +kernel
theorem dX6_step_169 : decode cX6_step 169 = .ok (.iastore, 1) := by decide +kernel
theorem dX6_step_170 : decode cX6_step 170 = .ok (.aload_n 0, 1) := by decide +kernel
theorem dX6_step_171 : decode cX6_step 171 = .ok (.getfield 7, 3) := by decide +kernel
theorem dX6_step_174 : decode cX6_step 174 = .ok (.sipush 347, 3) := by decide +kernel
theorem dX6_step_177 : decode cX6_step 177 = .ok (.dup2, 1) := by decide +kernel
theorem dX6_step_178 : decode cX6_step 178 = .ok (.iaload, 1) := by decide +kernel
theorem dX6_step_179 : decode cX6_step 179 = .ok (.iload 4, 2) := by decide +kernel
theorem dX6_step_181 : decode cX6_step 181 = .ok (.iadd, 1) := by decide +kernel
theorem dX6_step_182 : decode cX6_step 182 = .ok (.iastore, 1) := by decide +kernel
theorem dX6_step_183 : decode cX6_step 183 = .ok (.aload_n 0, 1) := by decide +kernel
theorem dX6_step_184 : decode cX6_step 184 = .ok (.getfield 7, 3) := by decide +kernel
theorem dX6_step_187 : decode cX6_step 187 = .ok (.sipush 330, 3) := by decide +kernel
theorem dX6_step_190 : decode cX6_step 190 = .ok (.iconst 1, 1) := by decide +kernel
theorem dX6_step_191 : decode cX6_step 191 = .ok (.iastore, 1) := by decide +kernel
theorem dX6_step_192 : decode cX6_step 192 = .ok (.goto 29, 3) := by decide +kernel
theorem dX6_step_195 : decode cX6_step 195 = .ok (.aload_n 0, 1) := by decide +kernel
theorem dX6_step_196 : decode cX6_step 196 = .ok (.aload_n 0, 1) := by decide +kernel
theorem dX6_step_197 : decode cX6_step 197 = .ok (.getfield 7, 3) := by decide +kernel
theorem dX6_step_200 : decode cX6_step 200 = .ok (.sipush 329, 3) := by decide +kernel
theorem dX6_step_203 : decode cX6_step 203 = .ok (.iaload, 1) := by decide +kernel
theorem dX6_step_204 : decode cX6_step 204 = .ok (.iload 4, 2) := by decide +kernel
theorem dX6_step_206 : decode cX6_step 206 = .ok (.invokevirtual 62, 3) := by decide +kernel
theorem dX6_step_209 : decode cX6_step 209 = .ok (.aload_n 0, 1) := by decide +kernel
theorem dX6_step_210 : decode cX6_step 210 = .ok (.getfield 7, 3) := by decide +kernel
theorem dX6_step_213 : decode cX6_step 213 = .ok (.sipush 349, 3) := by decide +kernel
theorem dX6_step_216 : decode cX6_step 216 = .ok (.dup2, 1) := by decide +kernel
theorem dX6_step_217 : decode cX6_step 217 = .ok (.iaload, 1) := by decide +kernel
theorem dX6_step_218 : decode cX6_step 218 = .ok (.iconst 1, 1) := by decide +kernel
theorem dX6_step_219 : decode cX6_step 219 = .ok (.iadd, 1) := by decide +kernel
theorem dX6_step_220 : decode cX6_step 220 = .ok (.iastore, 1) := by decide +kernel
theorem dX6_step_221 : decode cX6_step 221 = .ok (.iinc 3 1, 3) := by decide +kernel
theorem dX6_step_224 : decode cX6_step 224 = .ok (.goto (-102), 3) := by decide +kernel
theorem dX6_step_227 : decode cX6_step 227 = .ok (.aload_n 0, 1) := by decide +kernel
theorem dX6_step_228 : decode cX6_step 228 = .ok (.getfield 7, 3) := by decide +kernel
theorem dX6_step_231 : decode cX6_step 231 = .ok (.sipush 345, 3) := by decide +kernel
theorem dX6_step_234 : decode cX6_step 234 = .ok (.dup2, 1) := by decide +kernel
theorem dX6_step_235 : decode cX6_step 235 = .ok (.iaload, 1) := by decide +kernel
theorem dX6_step_236 : decode cX6_step 236 = .ok (.iconst 1, 1) := by decide +kernel
theorem dX6_step_237 : decode cX6_step 237 = .ok (.iadd, 1) := by decide +kernel
theorem dX6_step_238 : decode cX6_step 238 = .ok (.iastore, 1) := by decide +kernel
theorem dX6_step_239 : decode cX6_step 239 = .ok (.return_, 1) := by decide +kernel
set_option maxRecDepth 20000 in
theorem ggX6_runs_X6_reason : GoodIn wsX6_runs wsX6_reason := goodIn_r _ [5, 6, 7, 8, 9, 4, 10, 11, 12, 13, 14, 15, 16, 17, 18, 19, 20, 21, 22, 23, 24, 25, 26, 27, 28, 29, 30, 43, 44, 45, 46, 47, 48, 49, 50, 51, 52, 53] (by decide +kernel) (by decide +kernel)
set_option maxRecDepth 20000 in
theorem gX6_runs_X6_reason : GoodIn wsX6_runs (wsV RX6 66 RX6 yX6_reason wsX6_reason) := goodIn_app (goodIn_of _ (by decide +kernel)) ggX6_runs_X6_reason
set_option maxRecDepth 20000 in
theorem ggX6_runs_X6_step : GoodIn wsX6_runs wsX6_step := goodIn_r _ [34, 6, 15, 16, 17, 4, 18, 7, 8, 9, 10, 19, 20, 21, 22, 23, 24, 25, 26, 27, 28, 29, 30, 35, 36, 37, 38, 11, 12, 13, 14, 39, 40, 41, 42, 43, 44, 45, 46, 47, 48, 49, 50, 51, 52, 53] (by decide +kernel) (by decide +kernel)
set_option maxRecDepth 20000 in
theorem gX6_runs_X6_step : GoodIn wsX6_runs (wsV RX6 69 RX6 yX6_step wsX6_step) := goodIn_app (goodIn_of _ (by decide +kernel)) ggX6_runs_X6_step
theorem dX6_runs_0 : decode cX6_runs 0 = .ok (.iconst 0, 1) := by decide +kernel
theorem dX6_runs_1 : decode cX6_runs 1 = .ok (.istore_n 2, 1) := by decide +kernel
theorem dX6_runs_2 : decode cX6_runs 2 = .ok (.iload_n 2, 1) := by decide +kernel
theorem dX6_runs_3 : decode cX6_runs 3 = .ok (.iload_n 1, 1) := by decide +kernel
theorem dX6_runs_4 : decode cX6_runs 4 = .ok (.if_icmp .ge 20, 3) := by decide +kernel
theorem dX6_runs_7 : decode cX6_runs 7 = .ok (.aload_n 0, 1) := by decide +kernel
theorem dX6_runs_8 : decode cX6_runs 8 = .ok (.invokevirtual 66, 3) := by decide +kernel
theorem dX6_runs_11 : decode cX6_runs 11 = .ok (.ifCond .ne 13, 3) := by decide +kernel
theorem dX6_runs_14 : decode cX6_runs 14 = .ok (.aload_n 0, 1) := by decide +kernel
theorem dX6_runs_15 : decode cX6_runs 15 = .ok (.invokevirtual 69, 3) := by decide +kernel
theorem dX6_runs_18 : decode cX6_runs 18 = .ok (.iinc 2 1, 3) := by decide +kernel
theorem dX6_runs_21 : decode cX6_runs 21 = .ok (.goto (-19), 3) := by decide +kernel
theorem dX6_runs_24 : decode cX6_runs 24 = .ok (.iload_n 2, 1) := by decide +kernel
theorem dX6_runs_25 : decode cX6_runs 25 = .ok (.ireturn, 1) := by decide +kernel
set_option maxRecDepth 20000 in
theorem ggX6_sign_X6_in : GoodIn wsX6_sign wsX6_in := goodIn_r _ [8] (by decide +kernel) (by decide +kernel)
set_option maxRecDepth 20000 in
theorem gX6_sign_X6_in : GoodIn wsX6_sign (va_wsS RX6 32 yX6_in wsX6_in) := goodIn_app (goodIn_of _ (by decide +kernel)) ggX6_sign_X6_in
theorem dX6_sign_0 : decode cX6_sign 0 = .ok (.aload_n 0, 1) := by decide +kernel
theorem dX6_sign_1 : decode cX6_sign 1 = .ok (.getfield 72, 3) := by decide +kernel
theorem dX6_sign_4 : decode cX6_sign 4 = .ok (.aload_n 0, 1) := by decide +kernel
theorem dX6_sign_5 : decode cX6_sign 5 = .ok (.getfield 75, 3) := by decide +kernel
theorem dX6_sign_8 : decode cX6_sign 8 = .ok (.if_icmp .ge 15, 3) := by decide +kernel
theorem dX6_sign_11 : decode cX6_sign 11 = .ok (.aload_n 0, 1) := by decide +kernel
theorem dX6_sign_12 : decode cX6_sign 12 = .ok (.getfield 22, 3) := by decide +kernel
theorem dX6_sign_15 : decode cX6_sign 15 = .ok (.aload_n 0, 1) := by decide +kernel
theorem dX6_sign_16 : decode cX6_sign 16 = .ok (.getfield 72, 3) := by decide +kernel
theorem dX6_sign_19 : decode cX6_sign 19 = .ok (.iaload, 1) := by decide +kernel
theorem dX6_sign_20 : decode cX6_sign 20 = .ok (.goto 4, 3) := by decide +kernel
theorem dX6_sign_23 : decode cX6_sign 23 = .ok (.iconst 0, 1) := by decide +kernel
theorem dX6_sign_24 : decode cX6_sign 24 = .ok (.istore_n 3, 1) := by decide +kernel
theorem dX6_sign_25 : decode cX6_sign 25 = .ok (.aload_n 0, 1) := by decide +kernel
theorem dX6_sign_26 : decode cX6_sign 26 = .ok (.aload_n 0, 1) := by decide +kernel
theorem dX6_sign_27 : decode cX6_sign 27 = .ok (.getfield 78, 3) := by decide +kernel
theorem dX6_sign_30 : decode cX6_sign 30 = .ok (.ifCond .ne 23, 3) := by decide +kernel
theorem dX6_sign_33 : decode cX6_sign 33 = .ok (.aload_n 0, 1) := by decide +kernel
theorem dX6_sign_34 : decode cX6_sign 34 = .ok (.getfield 72, 3) := by decide +kernel
theorem dX6_sign_37 : decode cX6_sign 37 = .ok (.aload_n 0, 1) := by decide +kernel
theorem dX6_sign_38 : decode cX6_sign 38 = .ok (.getfield 75, 3) := by decide +kernel
theorem dX6_sign_41 : decode cX6_sign 41 = .ok (.if_icmp .ge 12, 3) := by decide +kernel
theorem dX6_sign_44 : decode cX6_sign 44 = .ok (.iload_n 3, 1) := by decide +kernel
theorem dX6_sign_45 : decode cX6_sign 45 = .ok (.iload_n 1, 1) := by decide +kernel
theorem dX6_sign_46 : decode cX6_sign 46 = .ok (.iload_n 2, 1) := by decide +kernel
theorem dX6_sign_47 : decode cX6_sign 47 = .ok (.invokestatic 32, 3) := by decide +kernel
theorem dX6_sign_50 : decode cX6_sign 50 = .ok (.ifCond .ne 7, 3) := by decide +kernel
theorem dX6_sign_53 : decode cX6_sign 53 = .ok (.iconst 1, 1) := by decide +kernel
theorem dX6_sign_54 : decode cX6_sign 54 = .ok (.goto 4, 3) := by decide +kernel
theorem dX6_sign_57 : decode cX6_sign 57 = .ok (.iconst 0, 1) := by decide +kernel
theorem dX6_sign_58 : decode cX6_sign 58 = .ok (.putfield 78, 3) := by decide +kernel
theorem dX6_sign_61 : decode cX6_sign 61 = .ok (.aload_n 0, 1) := by decide +kernel
theorem dX6_sign_62 : decode cX6_sign 62 = .ok (.dup, 1) := by decide +kernel
theorem dX6_sign_63 : decode cX6_sign 63 = .ok (.getfield 72, 3) := by decide +kernel
theorem dX6_sign_66 : decode cX6_sign 66 = .ok (.aload_n 0, 1) := by decide +kernel
theorem dX6_sign_67 : decode cX6_sign 67 = .ok (.getfield 78, 3) := by decide +kernel
theorem dX6_sign_70 : decode cX6_sign 70 = .ok (.ifCond .eq 7, 3) := by decide +kernel
theorem dX6_sign_73 : decode cX6_sign 73 = .ok (.iconst 0, 1) := by decide +kernel
theorem dX6_sign_74 : decode cX6_sign 74 = .ok (.goto 4, 3) := by decide +kernel
theorem dX6_sign_77 : decode cX6_sign 77 = .ok (.iconst 1, 1) := by decide +kernel
theorem dX6_sign_78 : decode cX6_sign 78 = .ok (.iadd, 1) := by decide +kernel
theorem dX6_sign_79 : decode cX6_sign 79 = .ok (.putfield 72, 3) := by decide +kernel
theorem dX6_sign_82 : decode cX6_sign 82 = .ok (.iload_n 3, 1) := by decide +kernel
theorem dX6_sign_83 : decode cX6_sign 83 = .ok (.ireturn, 1) := by decide +kernel
set_option maxRecDepth 20000 in
theorem ggX6_isNext_X6_in : GoodIn wsX6_isNext wsX6_in := goodIn_r _ [8] (by decide +kernel) (by decide +kernel)
set_option maxRecDepth 20000 in
theorem gX6_isNext_X6_in : GoodIn wsX6_isNext (va_wsS RX6 32 yX6_in wsX6_in) := goodIn_app (goodIn_of _ (by decide +kernel)) ggX6_isNext_X6_in
theorem dX6_isNext_0 : decode cX6_isNext 0 = .ok (.aload_n 0, 1) := by decide +kernel
theorem dX6_isNext_1 : decode cX6_isNext 1 = .ok (.getfield 78, 3) := by decide +kernel
theorem dX6_isNext_4 : decode cX6_isNext 4 = .ok (.ifCond .ne 35, 3) := by decide +kernel
theorem dX6_isNext_7 : decode cX6_isNext 7 = .ok (.aload_n 0, 1) := by decide +kernel
theorem dX6_isNext_8 : decode cX6_isNext 8 = .ok (.getfield 72, 3) := by decide +kernel
theorem dX6_isNext_11 : decode cX6_isNext 11 = .ok (.aload_n 0, 1) := by decide +kernel
theorem dX6_isNext_12 : decode cX6_isNext 12 = .ok (.getfield 75, 3) := by decide +kernel
theorem dX6_isNext_15 : decode cX6_isNext 15 = .ok (.if_icmp .ge 24, 3) := by decide +kernel
theorem dX6_isNext_18 : decode cX6_isNext 18 = .ok (.aload_n 0, 1) := by decide +kernel
theorem dX6_isNext_19 : decode cX6_isNext 19 = .ok (.getfield 22, 3) := by decide +kernel
theorem dX6_isNext_22 : decode cX6_isNext 22 = .ok (.aload_n 0, 1) := by decide +kernel
theorem dX6_isNext_23 : decode cX6_isNext 23 = .ok (.getfield 72, 3) := by decide +kernel
theorem dX6_isNext_26 : decode cX6_isNext 26 = .ok (.iaload, 1) := by decide +kernel
theorem dX6_isNext_27 : decode cX6_isNext 27 = .ok (.iload_n 1, 1) := by decide +kernel
theorem dX6_isNext_28 : decode cX6_isNext 28 = .ok (.iload_n 2, 1) := by decide +kernel
theorem dX6_isNext_29 : decode cX6_isNext 29 = .ok (.invokestatic 32, 3) := by decide +kernel
theorem dX6_isNext_32 : decode cX6_isNext 32 = .ok (.ifCond .eq 7, 3) := by decide +kernel
theorem dX6_isNext_35 : decode cX6_isNext 35 = .ok (.iconst 1, 1) := by decide +kernel
theorem dX6_isNext_36 : decode cX6_isNext 36 = .ok (.goto 4, 3) := by decide +kernel
theorem dX6_isNext_39 : decode cX6_isNext 39 = .ok (.iconst 0, 1) := by decide +kernel
theorem dX6_isNext_40 : decode cX6_isNext 40 = .ok (.ireturn, 1) := by decide +kernel
set_option maxRecDepth 20000 in
theorem ggX6_number_X6_sign : GoodIn wsX6_number wsX6_sign := goodIn_r _ [7, 2, 8, 1, 9, 10, 11, 6, 12, 17, 18, 19, 20, 21, 22, 23, 24, 25, 26, 27] (by decide +kernel) (by decide +kernel)
set_option maxRecDepth 20000 in
theorem gX6_number_X6_sign : GoodIn wsX6_number (wsV RX6 82 RX6 yX6_sign wsX6_sign) := goodIn_app (goodIn_of _ (by decide +kernel)) ggX6_number_X6_sign
set_option maxRecDepth 20000 in
theorem ggX6_number_X6_isNext : GoodIn wsX6_number wsX6_isNext := goodIn_r _ [16, 9, 2, 8, 1, 10, 11, 6, 12, 17, 18, 19, 20, 21, 22, 23, 24, 25, 26, 27] (by decide +kernel) (by decide +kernel)
set_option maxRecDepth 20000 in
theorem gX6_number_X6_isNext : GoodIn wsX6_number (wsV RX6 85 RX6 yX6_isNext wsX6_isNext) := goodIn_app (goodIn_of _ (by decide +kernel)) ggX6_number_X6_isNext
theorem dX6_number_0 : decode cX6_number 0 = .ok (.aload_n 0, 1) := by decide +kernel
theorem dX6_number_1 : decode cX6_number 1 = .ok (.bipush 48, 2) := by decide +kernel
theorem dX6_number_3 : decode cX6_number 3 = .ok (.iload_n 1, 1) := by decide +kernel
theorem dX6_number_4 : decode cX6_number 4 = .ok (.iadd, 1) := by decide +kernel
theorem dX6_number_5 : decode cX6_number 5 = .ok (.bipush 57, 2) := by decide +kernel
theorem dX6_number_7 : decode cX6_number 7 = .ok (.invokevirtual 82, 3) := by decide +kernel
theorem dX6_number_10 : decode cX6_number 10 = .ok (.bipush 48, 2) := by decide +kernel
theorem dX6_number_12 : decode cX6_number 12 = .ok (.isub, 1) := by decide +kernel
theorem dX6_number_13 : decode cX6_number 13 = .ok (.istore_n 3, 1) := by decide +kernel
theorem dX6_number_14 : decode cX6_number 14 = .ok (.iload_n 3, 1) := by decide +kernel
theorem dX6_number_15 : decode cX6_number 15 = .ok (.ifCond .le 66, 3) := by decide +kernel
theorem dX6_number_18 : decode cX6_number 18 = .ok (.aload_n 0, 1) := by decide +kernel
theorem dX6_number_19 : decode cX6_number 19 = .ok (.bipush 48, 2) := by decide +kernel
theorem dX6_number_21 : decode cX6_number 21 = .ok (.bipush 57, 2) := by decide +kernel
theorem dX6_number_23 : decode cX6_number 23 = .ok (.invokevirtual 85, 3) := by decide +kernel
theorem dX6_number_26 : decode cX6_number 26 = .ok (.ifCond .eq 55, 3) := by decide +kernel
theorem dX6_number_29 : decode cX6_number 29 = .ok (.bipush 10, 2) := by decide +kernel
theorem dX6_number_31 : decode cX6_number 31 = .ok (.iload_n 3, 1) := by decide +kernel
theorem dX6_number_32 : decode cX6_number 32 = .ok (.imul, 1) := by decide +kernel
theorem dX6_number_33 : decode cX6_number 33 = .ok (.aload_n 0, 1) := by decide +kernel
theorem dX6_number_34 : decode cX6_number 34 = .ok (.getfield 22, 3) := by decide +kernel
theorem dX6_number_37 : decode cX6_number 37 = .ok (.aload_n 0, 1) := by decide +kernel
theorem dX6_number_38 : decode cX6_number 38 = .ok (.getfield 72, 3) := by decide +kernel
theorem dX6_number_41 : decode cX6_number 41 = .ok (.iaload, 1) := by decide +kernel
theorem dX6_number_42 : decode cX6_number 42 = .ok (.iadd, 1) := by decide +kernel
theorem dX6_number_43 : decode cX6_number 43 = .ok (.bipush 48, 2) := by decide +kernel
theorem dX6_number_45 : decode cX6_number 45 = .ok (.isub, 1) := by decide +kernel
theorem dX6_number_46 : decode cX6_number 46 = .ok (.iload_n 2, 1) := by decide +kernel
theorem dX6_number_47 : decode cX6_number 47 = .ok (.if_icmp .gt 34, 3) := by decide +kernel
theorem dX6_number_50 : decode cX6_number 50 = .ok (.bipush 10, 2) := by decide +kernel
theorem dX6_number_52 : decode cX6_number 52 = .ok (.iload_n 3, 1) := by decide +kernel
theorem dX6_number_53 : decode cX6_number 53 = .ok (.imul, 1) := by decide +kernel
theorem dX6_number_54 : decode cX6_number 54 = .ok (.aload_n 0, 1) := by decide +kernel
theorem dX6_number_55 : decode cX6_number 55 = .ok (.getfield 22, 3) := by decide +kernel
theorem dX6_number_58 : decode cX6_number 58 = .ok (.aload_n 0, 1) := by decide +kernel
theorem dX6_number_59 : decode cX6_number 59 = .ok (.getfield 72, 3) := by decide +kernel
theorem dX6_number_62 : decode cX6_number 62 = .ok (.iaload, 1) := by decide +kernel
theorem dX6_number_63 : decode cX6_number 63 = .ok (.iadd, 1) := by decide +kernel
theorem dX6_number_64 : decode cX6_number 64 = .ok (.bipush 48, 2) := by decide +kernel
theorem dX6_number_66 : decode cX6_number 66 = .ok (.isub, 1) := by decide +kernel
theorem dX6_number_67 : decode cX6_number 67 = .ok (.istore_n 3, 1) := by decide +kernel
theorem dX6_number_68 : decode cX6_number 68 = .ok (.aload_n 0, 1) := by decide +kernel
theorem dX6_number_69 : decode cX6_number 69 = .ok (.dup, 1) := by decide +kernel
theorem dX6_number_70 : decode cX6_number 70 = .ok (.getfield 72, 3) := by decide +kernel
theorem dX6_number_73 : decode cX6_number 73 = .ok (.iconst 1, 1) := by decide +kernel
theorem dX6_number_74 : decode cX6_number 74 = .ok (.iadd, 1) := by decide +kernel
theorem dX6_number_75 : decode cX6_number 75 = .ok (.putfield 72, 3) := by decide +kernel
theorem dX6_number_78 : decode cX6_number 78 = .ok (.goto (-64), 3) := by decide +kernel
theorem dX6_number_81 : decode cX6_number 81 = .ok (.iload_n 3, 1) := by decide +kernel
theorem dX6_number_82 : decode cX6_number 82 = .ok (.ireturn, 1) := by decide +kernel
set_option maxRecDepth 20000 in
theorem ggX6_times_X6_sign : GoodIn wsX6_times wsX6_sign := goodIn_r _ [7, 2, 8, 1, 9, 10, 11, 6, 12, 17, 18, 19, 20, 21, 22, 23, 24, 25, 26, 27] (by decide +kernel) (by decide +kernel)
set_option maxRecDepth 20000 in
theorem gX6_times_X6_sign : GoodIn wsX6_times (wsV RX6 82 RX6 yX6_sign wsX6_sign) := goodIn_app (goodIn_of _ (by decide +kernel)) ggX6_times_X6_sign
set_option maxRecDepth 20000 in
theorem ggX6_times_X6_isNext : GoodIn wsX6_times wsX6_isNext := goodIn_r _ [16, 9, 2, 8, 1, 10, 11, 6, 12, 17, 18, 19, 20, 21, 22, 23, 24, 25, 26, 27] (by decide +kernel) (by decide +kernel)
set_option maxRecDepth 20000 in
theorem gX6_times_X6_isNext : GoodIn wsX6_times (wsV RX6 85 RX6 yX6_isNext wsX6_isNext) := goodIn_app (goodIn_of _ (by decide +kernel)) ggX6_times_X6_isNext
theorem dX6_times_0 : decode cX6_times 0 = .ok (.aload_n 0, 1) := by decide +kernel
theorem dX6_times_1 : decode cX6_times 1 = .ok (.bipush 49, 2) := by decide +kernel
theorem dX6_times_3 : decode cX6_times 3 = .ok (.bipush 57, 2) := by decide +kernel
theorem dX6_times_5 : decode cX6_times 5 = .ok (.invokevirtual 82, 3) := by decide +kernel
theorem dX6_times_8 : decode cX6_times 8 = .ok (.bipush 48, 2) := by decide +kernel
theorem dX6_times_10 : decode cX6_times 10 = .ok (.isub, 1) := by decide +kernel
theorem dX6_times_11 : decode cX6_times 11 = .ok (.istore_n 1, 1) := by decide +kernel
theorem dX6_times_12 : decode cX6_times 12 = .ok (.iload_n 1, 1) := by decide +kernel
theorem dX6_times_13 : decode cX6_times 13 = .ok (.iconst 1, 1) := by decide +kernel
theorem dX6_times_14 : decode cX6_times 14 = .ok (.if_icmp .ne 21, 3) := by decide +kernel
theorem dX6_times_17 : decode cX6_times 17 = .ok (.bipush 10, 2) := by decide +kernel
theorem dX6_times_19 : decode cX6_times 19 = .ok (.aload_n 0, 1) := by decide +kernel
theorem dX6_times_20 : decode cX6_times 20 = .ok (.bipush 48, 2) := by decide +kernel
theorem dX6_times_22 : decode cX6_times 22 = .ok (.bipush 57, 2) := by decide +kernel
theorem dX6_times_24 : decode cX6_times 24 = .ok (.invokevirtual 82, 3) := by decide +kernel
theorem dX6_times_27 : decode cX6_times 27 = .ok (.iadd, 1) := by decide +kernel
theorem dX6_times_28 : decode cX6_times 28 = .ok (.bipush 48, 2) := by decide +kernel
theorem dX6_times_30 : decode cX6_times 30 = .ok (.isub, 1) := by decide +kernel
theorem dX6_times_31 : decode cX6_times 31 = .ok (.istore_n 1, 1) := by decide +kernel
theorem dX6_times_32 : decode cX6_times 32 = .ok (.goto 64, 3) := by decide +kernel
theorem dX6_times_35 : decode cX6_times 35 = .ok (.aload_n 0, 1) := by decide +kernel
theorem dX6_times_36 : decode cX6_times 36 = .ok (.bipush 48, 2) := by decide +kernel
theorem dX6_times_38 : decode cX6_times 38 = .ok (.bipush 57, 2) := by decide +kernel
theorem dX6_times_40 : decode cX6_times 40 = .ok (.invokevirtual 85, 3) := by decide +kernel
theorem dX6_times_43 : decode cX6_times 43 = .ok (.ifCond .eq 53, 3) := by decide +kernel
theorem dX6_times_46 : decode cX6_times 46 = .ok (.bipush 10, 2) := by decide +kernel
theorem dX6_times_48 : decode cX6_times 48 = .ok (.iload_n 1, 1) := by decide +kernel
theorem dX6_times_49 : decode cX6_times 49 = .ok (.imul, 1) := by decide +kernel
theorem dX6_times_50 : decode cX6_times 50 = .ok (.aload_n 0, 1) := by decide +kernel
theorem dX6_times_51 : decode cX6_times 51 = .ok (.getfield 22, 3) := by decide +kernel
theorem dX6_times_54 : decode cX6_times 54 = .ok (.aload_n 0, 1) := by decide +kernel
theorem dX6_times_55 : decode cX6_times 55 = .ok (.getfield 72, 3) := by decide +kernel
theorem dX6_times_58 : decode cX6_times 58 = .ok (.iaload, 1) := by decide +kernel
theorem dX6_times_59 : decode cX6_times 59 = .ok (.iadd, 1) := by decide +kernel
theorem dX6_times_60 : decode cX6_times 60 = .ok (.bipush 48, 2) := by decide +kernel
theorem dX6_times_62 : decode cX6_times 62 = .ok (.isub, 1) := by decide +kernel
theorem dX6_times_63 : decode cX6_times 63 = .ok (.bipush 40, 2) := by decide +kernel
theorem dX6_times_65 : decode cX6_times 65 = .ok (.if_icmp .gt 31, 3) := by decide +kernel
theorem dX6_times_68 : decode cX6_times 68 = .ok (.bipush 10, 2) := by decide +kernel
theorem dX6_times_70 : decode cX6_times 70 = .ok (.iload_n 1, 1) := by decide +kernel
theorem dX6_times_71 : decode cX6_times 71 = .ok (.imul, 1) := by decide +kernel
theorem dX6_times_72 : decode cX6_times 72 = .ok (.aload_n 0, 1) := by decide +kernel
theorem dX6_times_73 : decode cX6_times 73 = .ok (.getfield 22, 3) := by decide +kernel
theorem dX6_times_76 : decode cX6_times 76 = .ok (.aload_n 0, 1) := by decide +kernel
theorem dX6_times_77 : decode cX6_times 77 = .ok (.getfield 72, 3) := by decide +kernel
theorem dX6_times_80 : decode cX6_times 80 = .ok (.iaload, 1) := by decide +kernel
theorem dX6_times_81 : decode cX6_times 81 = .ok (.iadd, 1) := by decide +kernel
theorem dX6_times_82 : decode cX6_times 82 = .ok (.bipush 48, 2) := by decide +kernel
theorem dX6_times_84 : decode cX6_times 84 = .ok (.isub, 1) := by decide +kernel
theorem dX6_times_85 : decode cX6_times 85 = .ok (.istore_n 1, 1) := by decide +kernel
theorem dX6_times_86 : decode cX6_times 86 = .ok (.aload_n 0, 1) := by decide +kernel
theorem dX6_times_87 : decode cX6_times 87 = .ok (.dup, 1) := by decide +kernel
theorem dX6_times_88 : decode cX6_times 88 = .ok (.getfield 72, 3) := by decide +kernel
theorem dX6_times_91 : decode cX6_times 91 = .ok (.iconst 1, 1) := by decide +kernel
theorem dX6_times_92 : decode cX6_times 92 = .ok (.iadd, 1) := by decide +kernel
theorem dX6_times_93 : decode cX6_times 93 = .ok (.putfield 72, 3) := by decide +kernel
theorem dX6_times_96 : decode cX6_times 96 = .ok (.iload_n 1, 1) := by decide +kernel
theorem dX6_times_97 : decode cX6_times 97 = .ok (.ireturn, 1) := by decide +kernel
set_option maxRecDepth 20000 in
theorem ggX6_go_X6_number : GoodIn wsX6_go wsX6_number := goodIn_r _ [9, 10, 1, 11, 12, 13, 8, 14, 4, 2, 15, 16, 17, 18, 19, 20, 21, 34, 35, 36, 37, 38, 39, 40, 41, 42, 43, 44] (by decide +kernel) (by decide +kernel)
set_option maxRecDepth 20000 in
theorem gX6_go_X6_number : GoodIn wsX6_go (wsV RX6 89 RX6 yX6_number wsX6_number) := goodIn_app (goodIn_of _ (by decide +kernel)) ggX6_go_X6_number
set_option maxRecDepth 20000 in
theorem ggX6_go_X6_isNext : GoodIn wsX6_go wsX6_isNext := goodIn_r _ [21, 2, 1, 4, 10, 15, 16, 8, 17, 34, 35, 36, 37, 38, 39, 40, 41, 42, 43, 44] (by decide +kernel) (by decide +kernel)
set_option maxRecDepth 20000 in
theorem gX6_go_X6_isNext : GoodIn wsX6_go (wsV RX6 85 RX6 yX6_isNext wsX6_isNext) := goodIn_app (goodIn_of _ (by decide +kernel)) ggX6_go_X6_isNext
set_option maxRecDepth 20000 in
theorem ggX6_go_X6_times : GoodIn wsX6_go wsX6_times := goodIn_r _ [25, 10, 1, 11, 12, 13, 8, 14, 4, 2, 15, 16, 17, 18, 19, 20, 21, 34, 35, 36, 37, 38, 39, 40, 41, 42, 43, 44] (by decide +kernel) (by decide +kernel)
set_option maxRecDepth 20000 in
theorem gX6_go_X6_times : GoodIn wsX6_go (wsV RX6 92 RX6 yX6_times wsX6_times) := goodIn_app (goodIn_of _ (by decide +kernel)) ggX6_go_X6_times
set_option maxRecDepth 20000 in
theorem ggX6_go_X6_add : GoodIn wsX6_go wsX6_add := goodIn_r _ [29, 3, 30, 31, 32, 8, 33, 34, 35, 36, 37, 38, 39, 40, 41, 42, 43, 44] (by decide +kernel) (by decide +kernel)
set_option maxRecDepth 20000 in
theorem gX6_go_X6_add : GoodIn wsX6_go (wsV RX6 62 RX6 yX6_add wsX6_add) := goodIn_app (goodIn_of _ (by decide +kernel)) ggX6_go_X6_add
set_option maxRecDepth 20000 in
theorem ggX6_go_X6_sign : GoodIn wsX6_go wsX6_sign := goodIn_r _ [14, 1, 4, 10, 2, 15, 16, 8, 17, 34, 35, 36, 37, 38, 39, 40, 41, 42, 43, 44] (by decide +kernel) (by decide +kernel)
set_option maxRecDepth 20000 in
theorem gX6_go_X6_sign : GoodIn wsX6_go (wsV RX6 82 RX6 yX6_sign wsX6_sign) := goodIn_app (goodIn_of _ (by decide +kernel)) ggX6_go_X6_sign
theorem dX6_go_0 : decode cX6_go 0 = .ok (.aload_n 0, 1) := by decide +kernel
theorem dX6_go_1 : decode cX6_go 1 = .ok (.iconst 0, 1) := by decide +kernel
theorem dX6_go_2 : decode cX6_go 2 = .ok (.putfield 72, 3) := by decide +kernel
theorem dX6_go_5 : decode cX6_go 5 = .ok (.aload_n 0, 1) := by decide +kernel
theorem dX6_go_6 : decode cX6_go 6 = .ok (.iconst 0, 1) := by decide +kernel
theorem dX6_go_7 : decode cX6_go 7 = .ok (.putfield 78, 3) := by decide +kernel
theorem dX6_go_10 : decode cX6_go 10 = .ok (.iconst 0, 1) := by decide +kernel
theorem dX6_go_11 : decode cX6_go 11 = .ok (.istore_n 2, 1) := by decide +kernel
theorem dX6_go_12 : decode cX6_go 12 = .ok (.iconst 1, 1) := by decide +kernel
theorem dX6_go_13 : decode cX6_go 13 = .ok (.istore_n 3, 1) := by decide +kernel
theorem dX6_go_14 : decode cX6_go 14 = .ok (.iload_n 3, 1) := by decide +kernel
theorem dX6_go_15 : decode cX6_go 15 = .ok (.ifCond .eq 142, 3) := by decide +kernel
theorem dX6_go_18 : decode cX6_go 18 = .ok (.aload_n 0, 1) := by decide +kernel
theorem dX6_go_19 : decode cX6_go 19 = .ok (.iconst 0, 1) := by decide +kernel
theorem dX6_go_20 : decode cX6_go 20 = .ok (.sipush 999, 3) := by decide +kernel
theorem dX6_go_23 : decode cX6_go 23 = .ok (.invokevirtual 89, 3) := by decide +kernel
theorem dX6_go_26 : decode cX6_go 26 = .ok (.istore 4, 2) := by decide +kernel
theorem dX6_go_28 : decode cX6_go 28 = .ok (.iconst 1, 1) := by decide +kernel
theorem dX6_go_29 : decode cX6_go 29 = .ok (.istore 5, 2) := by decide +kernel
theorem dX6_go_31 : decode cX6_go 31 = .ok (.aload_n 0, 1) := by decide +kernel
theorem dX6_go_32 : decode cX6_go 32 = .ok (.bipush 42, 2) := by decide +kernel
theorem dX6_go_34 : decode cX6_go 34 = .ok (.bipush 42, 2) := by decide +kernel
theorem dX6_go_36 : decode cX6_go 36 = .ok (.invokevirtual 85, 3) := by decide +kernel
theorem dX6_go_39 : decode cX6_go 39 = .ok (.ifCond .eq 19, 3) := by decide +kernel
theorem dX6_go_42 : decode cX6_go 42 = .ok (.aload_n 0, 1) := by decide +kernel
theorem dX6_go_43 : decode cX6_go 43 = .ok (.dup, 1) := by decide +kernel
theorem dX6_go_44 : decode cX6_go 44 = .ok (.getfield 72, 3) := by decide +kernel
theorem dX6_go_47 : decode cX6_go 47 = .ok (.iconst 1, 1) := by decide +kernel
theorem dX6_go_48 : decode cX6_go 48 = .ok (.iadd, 1) := by decide +kernel
theorem dX6_go_49 : decode cX6_go 49 = .ok (.putfield 72, 3) := by decide +kernel
theorem dX6_go_52 : decode cX6_go 52 = .ok (.aload_n 0, 1) := by decide +kernel
theorem dX6_go_53 : decode cX6_go 53 = .ok (.invokevirtual 92, 3) := by decide +kernel
theorem dX6_go_56 : decode cX6_go 56 = .ok (.istore 5, 2) := by decide +kernel
theorem dX6_go_58 : decode cX6_go 58 = .ok (.iload_n 2, 1) := by decide +kernel
theorem dX6_go_59 : decode cX6_go 59 = .ok (.iload 5, 2) := by decide +kernel
theorem dX6_go_61 : decode cX6_go 61 = .ok (.iadd, 1) := by decide +kernel
theorem dX6_go_62 : decode cX6_go 62 = .ok (.istore_n 2, 1) := by decide +kernel
theorem dX6_go_63 : decode cX6_go 63 = .ok (.iconst 0, 1) := by decide +kernel
theorem dX6_go_64 : decode cX6_go 64 = .ok (.istore 6, 2) := by decide +kernel
theorem dX6_go_66 : decode cX6_go 66 = .ok (.iload 6, 2) := by decide +kernel
theorem dX6_go_68 : decode cX6_go 68 = .ok (.iload 5, 2) := by decide +kernel
theorem dX6_go_70 : decode cX6_go 70 = .ok (.if_icmp .ge 33, 3) := by decide +kernel
theorem dX6_go_73 : decode cX6_go 73 = .ok (.iload_n 1, 1) := by decide +kernel
theorem dX6_go_74 : decode cX6_go 74 = .ok (.ifCond .lt 29, 3) := by decide +kernel
theorem dX6_go_77 : decode cX6_go 77 = .ok (.aload_n 0, 1) := by decide +kernel
theorem dX6_go_78 : decode cX6_go 78 = .ok (.iload_n 1, 1) := by decide +kernel
theorem dX6_go_79 : decode cX6_go 79 = .ok (.iload 4, 2) := by decide +kernel
theorem dX6_go_81 : decode cX6_go 81 = .ok (.invokevirtual 62, 3) := by decide +kernel
theorem dX6_go_84 : decode cX6_go 84 = .ok (.aload_n 0, 1) := by decide +kernel
theorem dX6_go_85 : decode cX6_go 85 = .ok (.getfield 7, 3) := by decide +kernel
theorem dX6_go_88 : decode cX6_go 88 = .ok (.sipush 348, 3) := by decide +kernel
theorem dX6_go_91 : decode cX6_go 91 = .ok (.dup2, 1) := by decide +kernel
theorem dX6_go_92 : decode cX6_go 92 = .ok (.iaload, 1) := by decide +kernel
theorem dX6_go_93 : decode cX6_go 93 = .ok (.iload 4, 2) := by decide +kernel
theorem dX6_go_95 : decode cX6_go 95 = .ok (.iadd, 1) := by decide +kernel
theorem dX6_go_96 : decode cX6_go 96 = .ok (.iastore, 1) := by decide +kernel
theorem dX6_go_97 : decode cX6_go 97 = .ok (.iinc 6 1, 3) := by decide +kernel
theorem dX6_go_100 : decode cX6_go 100 = .ok (.goto (-34), 3) := by decide +kernel
theorem dX6_go_103 : decode cX6_go 103 = .ok (.aload_n 0, 1) := by decide +kernel
theorem dX6_go_104 : decode cX6_go 104 = .ok (.getfield 78, 3) := by decide +kernel
theorem dX6_go_107 : decode cX6_go 107 = .ok (.ifCond .ne 18, 3) := by decide +kernel
theorem dX6_go_110 : decode cX6_go 110 = .ok (.aload_n 0, 1) := by decide +kernel
theorem dX6_go_111 : decode cX6_go 111 = .ok (.getfield 72, 3) := by decide +kernel
theorem dX6_go_114 : decode cX6_go 114 = .ok (.aload_n 0, 1) := by decide +kernel
theorem dX6_go_115 : decode cX6_go 115 = .ok (.getfield 75, 3) := by decide +kernel
theorem dX6_go_118 : decode cX6_go 118 = .ok (.if_icmp .ge 7, 3) := by decide +kernel
theorem dX6_go_121 : decode cX6_go 121 = .ok (.iconst 1, 1) := by decide +kernel
theorem dX6_go_122 : decode cX6_go 122 = .ok (.goto 4, 3) := by decide +kernel
theorem dX6_go_125 : decode cX6_go 125 = .ok (.iconst 0, 1) := by decide +kernel
theorem dX6_go_126 : decode cX6_go 126 = .ok (.istore_n 3, 1) := by decide +kernel
theorem dX6_go_127 : decode cX6_go 127 = .ok (.iload_n 3, 1) := by decide +kernel
theorem dX6_go_128 : decode cX6_go 128 = .ok (.ifCond .eq 26, 3) := by decide +kernel
theorem dX6_go_131 : decode cX6_go 131 = .ok (.aload_n 0, 1) := by decide +kernel
theorem dX6_go_132 : decode cX6_go 132 = .ok (.bipush 44, 2) := by decide +kernel
theorem dX6_go_134 : decode cX6_go 134 = .ok (.bipush 44, 2) := by decide +kernel
theorem dX6_go_136 : decode cX6_go 136 = .ok (.invokevirtual 82, 3) := by decide +kernel
theorem dX6_go_139 : decode cX6_go 139 = .ok (.istore 6, 2) := by decide +kernel
theorem dX6_go_141 : decode cX6_go 141 = .ok (.aload_n 0, 1) := by decide +kernel
theorem dX6_go_142 : decode cX6_go 142 = .ok (.getfield 78, 3) := by decide +kernel
theorem dX6_go_145 : decode cX6_go 145 = .ok (.ifCond .ne 7, 3) := by decide +kernel
theorem dX6_go_148 : decode cX6_go 148 = .ok (.iconst 1, 1) := by decide +kernel
theorem dX6_go_149 : decode cX6_go 149 = .ok (.goto 4, 3) := by decide +kernel
theorem dX6_go_152 : decode cX6_go 152 = .ok (.iconst 0, 1) := by decide +kernel
theorem dX6_go_153 : decode cX6_go 153 = .ok (.istore_n 3, 1) := by decide +kernel
theorem dX6_go_154 : decode cX6_go 154 = .ok (.goto (-140), 3) := by decide +kernel
theorem dX6_go_157 : decode cX6_go 157 = .ok (.iload_n 2, 1) := by decide +kernel
theorem dX6_go_158 : decode cX6_go 158 = .ok (.ireturn, 1) := by decide +kernel
set_option maxRecDepth 20000 in
theorem ggX6_fill_X6_isCan : GoodIn wsX6_fill wsX6_isCan := goodIn_r _ [7, 8, 9, 6, 10] (by decide +kernel) (by decide +kernel)
set_option maxRecDepth 20000 in
theorem gX6_fill_X6_isCan : GoodIn wsX6_fill (va_wsS RX6 95 yX6_isCan wsX6_isCan) := goodIn_app (goodIn_of _ (by decide +kernel)) ggX6_fill_X6_isCan
set_option maxRecDepth 20000 in
theorem ggX6_fill_X6_throwing : GoodIn wsX6_fill wsX6_throwing := goodIn_r _ [14, 1, 52, 53, 54, 55, 56, 57, 58, 59, 60, 61, 62] (by decide +kernel) (by decide +kernel)
set_option maxRecDepth 20000 in
theorem gX6_fill_X6_throwing : GoodIn wsX6_fill (wsV RX6 98 RX6 yX6_throwing wsX6_throwing) := goodIn_app (goodIn_of _ (by decide +kernel)) ggX6_fill_X6_throwing
set_option maxRecDepth 20000 in
theorem ggX6_fill_X6_go : GoodIn wsX6_fill wsX6_go := goodIn_r _ [18, 19, 2, 20, 3, 21, 22, 23, 6, 24, 25, 26, 27, 28, 29, 8, 9, 10, 30, 31, 32, 33, 34, 35, 36, 37, 38, 39, 40, 41, 42, 43, 44, 45, 52, 53, 54, 55, 56, 57, 58, 59, 60, 61, 62] (by decide +kernel) (by decide +kernel)
set_option maxRecDepth 20000 in
theorem gX6_fill_X6_go : GoodIn wsX6_fill (wsV RX6 101 RX6 yX6_go wsX6_go) := goodIn_app (goodIn_of _ (by decide +kernel)) ggX6_fill_X6_go
set_option maxRecDepth 20000 in
theorem ggX6_fill_X6_metres : GoodIn wsX6_fill wsX6_metres := goodIn_r _ [45, 20, 52, 53, 54, 55, 56, 57, 58, 59, 60, 61, 62] (by decide +kernel) (by decide +kernel)
set_option maxRecDepth 20000 in
theorem gX6_fill_X6_metres : GoodIn wsX6_fill (wsV RX6 36 RX6 yX6_metres wsX6_metres) := goodIn_app (goodIn_of _ (by decide +kernel)) ggX6_fill_X6_metres
set_option maxRecDepth 20000 in
theorem ggX6_fill_X6_save : GoodIn wsX6_fill wsX6_save := goodIn_r _ [49, 50, 51, 20, 52, 53, 54, 55, 56, 57, 58, 59, 60, 61, 62] (by decide +kernel) (by decide +kernel)
set_option maxRecDepth 20000 in
theorem gX6_fill_X6_save : GoodIn wsX6_fill (wsV RX6 104 RX6 yX6_save wsX6_save) := goodIn_app (goodIn_of _ (by decide +kernel)) ggX6_fill_X6_save
theorem dX6_fill_0 : decode cX6_fill 0 = .ok (.aload_n 0, 1) := by decide +kernel
theorem dX6_fill_1 : decode cX6_fill 1 = .ok (.iconst 0, 1) := by decide +kernel
theorem dX6_fill_2 : decode cX6_fill 2 = .ok (.putfield 25, 3) := by decide +kernel
theorem dX6_fill_5 : decode cX6_fill 5 = .ok (.iload_n 1, 1) := by decide +kernel
theorem dX6_fill_6 : decode cX6_fill 6 = .ok (.invokestatic 95, 3) := by decide +kernel
theorem dX6_fill_9 : decode cX6_fill 9 = .ok (.ifCond .ne 9, 3) := by decide +kernel
theorem dX6_fill_12 : decode cX6_fill 12 = .ok (.aload_n 0, 1) := by decide +kernel
theorem dX6_fill_13 : decode cX6_fill 13 = .ok (.iconst 1, 1) := by decide +kernel
theorem dX6_fill_14 : decode cX6_fill 14 = .ok (.invokevirtual 98, 3) := by decide +kernel
theorem dX6_fill_17 : decode cX6_fill 17 = .ok (.ireturn, 1) := by decide +kernel
theorem dX6_fill_18 : decode cX6_fill 18 = .ok (.aload_n 0, 1) := by decide +kernel
theorem dX6_fill_19 : decode cX6_fill 19 = .ok (.iconst (-1), 1) := by decide +kernel
theorem dX6_fill_20 : decode cX6_fill 20 = .ok (.invokevirtual 101, 3) := by decide +kernel
theorem dX6_fill_23 : decode cX6_fill 23 = .ok (.istore_n 2, 1) := by decide +kernel
theorem dX6_fill_24 : decode cX6_fill 24 = .ok (.aload_n 0, 1) := by decide +kernel
theorem dX6_fill_25 : decode cX6_fill 25 = .ok (.getfield 78, 3) := by decide +kernel
theorem dX6_fill_28 : decode cX6_fill 28 = .ok (.ifCond .eq 9, 3) := by decide +kernel
theorem dX6_fill_31 : decode cX6_fill 31 = .ok (.aload_n 0, 1) := by decide +kernel
theorem dX6_fill_32 : decode cX6_fill 32 = .ok (.iconst 2, 1) := by decide +kernel
theorem dX6_fill_33 : decode cX6_fill 33 = .ok (.invokevirtual 98, 3) := by decide +kernel
theorem dX6_fill_36 : decode cX6_fill 36 = .ok (.ireturn, 1) := by decide +kernel
theorem dX6_fill_37 : decode cX6_fill 37 = .ok (.aload_n 0, 1) := by decide +kernel
theorem dX6_fill_38 : decode cX6_fill 38 = .ok (.iload_n 1, 1) := by decide +kernel
theorem dX6_fill_39 : decode cX6_fill 39 = .ok (.invokevirtual 36, 3) := by decide +kernel
theorem dX6_fill_42 : decode cX6_fill 42 = .ok (.iload_n 2, 1) := by decide +kernel
theorem dX6_fill_43 : decode cX6_fill 43 = .ok (.iadd, 1) := by decide +kernel
theorem dX6_fill_44 : decode cX6_fill 44 = .ok (.bipush 40, 2) := by decide +kernel
theorem dX6_fill_46 : decode cX6_fill 46 = .ok (.if_icmp .le 9, 3) := by decide +kernel
theorem dX6_fill_49 : decode cX6_fill 49 = .ok (.aload_n 0, 1) := by decide +kernel
theorem dX6_fill_50 : decode cX6_fill 50 = .ok (.iconst 3, 1) := by decide +kernel
theorem dX6_fill_51 : decode cX6_fill 51 = .ok (.invokevirtual 98, 3) := by decide +kernel
theorem dX6_fill_54 : decode cX6_fill 54 = .ok (.ireturn, 1) := by decide +kernel
theorem dX6_fill_55 : decode cX6_fill 55 = .ok (.aload_n 0, 1) := by decide +kernel
theorem dX6_fill_56 : decode cX6_fill 56 = .ok (.invokevirtual 104, 3) := by decide +kernel
theorem dX6_fill_59 : decode cX6_fill 59 = .ok (.aload_n 0, 1) := by decide +kernel
theorem dX6_fill_60 : decode cX6_fill 60 = .ok (.iload_n 1, 1) := by decide +kernel
theorem dX6_fill_61 : decode cX6_fill 61 = .ok (.invokevirtual 101, 3) := by decide +kernel
theorem dX6_fill_64 : decode cX6_fill 64 = .ok (.istore_n 2, 1) := by decide +kernel
theorem dX6_fill_65 : decode cX6_fill 65 = .ok (.aload_n 0, 1) := by decide +kernel
theorem dX6_fill_66 : decode cX6_fill 66 = .ok (.iconst 0, 1) := by decide +kernel
theorem dX6_fill_67 : decode cX6_fill 67 = .ok (.putfield 75, 3) := by decide +kernel
theorem dX6_fill_70 : decode cX6_fill 70 = .ok (.aload_n 0, 1) := by decide +kernel
theorem dX6_fill_71 : decode cX6_fill 71 = .ok (.iload_n 1, 1) := by decide +kernel
theorem dX6_fill_72 : decode cX6_fill 72 = .ok (.invokevirtual 36, 3) := by decide +kernel
theorem dX6_fill_75 : decode cX6_fill 75 = .ok (.ireturn, 1) := by decide +kernel
set_option maxRecDepth 20000 in
theorem ggX6_tip_X6_isCan : GoodIn wsX6_tip wsX6_isCan := goodIn_r _ [6, 7, 8, 5, 9] (by decide +kernel) (by decide +kernel)
set_option maxRecDepth 20000 in
theorem gX6_tip_X6_isCan : GoodIn wsX6_tip (va_wsS RX6 95 yX6_isCan wsX6_isCan) := goodIn_app (goodIn_of _ (by decide +kernel)) ggX6_tip_X6_isCan
set_option maxRecDepth 20000 in
theorem ggX6_tip_X6_throwing : GoodIn wsX6_tip wsX6_throwing := goodIn_r _ [13, 1, 32, 33, 34, 35, 36, 37, 38, 39, 40, 41, 42] (by decide +kernel) (by decide +kernel)
set_option maxRecDepth 20000 in
theorem gX6_tip_X6_throwing : GoodIn wsX6_tip (wsV RX6 98 RX6 yX6_throwing wsX6_throwing) := goodIn_app (goodIn_of _ (by decide +kernel)) ggX6_tip_X6_throwing
set_option maxRecDepth 20000 in
theorem ggX6_tip_X6_save : GoodIn wsX6_tip wsX6_save := goodIn_r _ [17, 18, 19, 2, 32, 33, 34, 35, 36, 37, 38, 39, 40, 41, 42] (by decide +kernel) (by decide +kernel)
set_option maxRecDepth 20000 in
theorem gX6_tip_X6_save : GoodIn wsX6_tip (wsV RX6 104 RX6 yX6_save wsX6_save) := goodIn_app (goodIn_of _ (by decide +kernel)) ggX6_tip_X6_save
set_option maxRecDepth 20000 in
theorem ggX6_tip_X6_metres : GoodIn wsX6_tip wsX6_metres := goodIn_r _ [23, 2, 32, 33, 34, 35, 36, 37, 38, 39, 40, 41, 42] (by decide +kernel) (by decide +kernel)
set_option maxRecDepth 20000 in
theorem gX6_tip_X6_metres : GoodIn wsX6_tip (wsV RX6 36 RX6 yX6_metres wsX6_metres) := goodIn_app (goodIn_of _ (by decide +kernel)) ggX6_tip_X6_metres
set_option maxRecDepth 20000 in
theorem ggX6_tip_X6_sum : GoodIn wsX6_tip wsX6_sum := goodIn_r _ [27, 20, 21, 22, 5, 23, 2, 28, 29, 30, 31, 32, 33, 34, 35, 36, 37, 38, 39, 40, 41, 42] (by decide +kernel) (by decide +kernel)
set_option maxRecDepth 20000 in
theorem gX6_tip_X6_sum : GoodIn wsX6_tip (wsV RX6 107 RX6 yX6_sum wsX6_sum) := goodIn_app (goodIn_of _ (by decide +kernel)) ggX6_tip_X6_sum
theorem dX6_tip_0 : decode cX6_tip 0 = .ok (.aload_n 0, 1) := by decide +kernel
theorem dX6_tip_1 : decode cX6_tip 1 = .ok (.iconst 0, 1) := by decide +kernel
theorem dX6_tip_2 : decode cX6_tip 2 = .ok (.putfield 25, 3) := by decide +kernel
theorem dX6_tip_5 : decode cX6_tip 5 = .ok (.iload_n 1, 1) := by decide +kernel
theorem dX6_tip_6 : decode cX6_tip 6 = .ok (.invokestatic 95, 3) := by decide +kernel
theorem dX6_tip_9 : decode cX6_tip 9 = .ok (.ifCond .ne 9, 3) := by decide +kernel
theorem dX6_tip_12 : decode cX6_tip 12 = .ok (.aload_n 0, 1) := by decide +kernel
theorem dX6_tip_13 : decode cX6_tip 13 = .ok (.iconst 1, 1) := by decide +kernel
theorem dX6_tip_14 : decode cX6_tip 14 = .ok (.invokevirtual 98, 3) := by decide +kernel
theorem dX6_tip_17 : decode cX6_tip 17 = .ok (.ireturn, 1) := by decide +kernel
theorem dX6_tip_18 : decode cX6_tip 18 = .ok (.aload_n 0, 1) := by decide +kernel
theorem dX6_tip_19 : decode cX6_tip 19 = .ok (.invokevirtual 104, 3) := by decide +kernel
theorem dX6_tip_22 : decode cX6_tip 22 = .ok (.aload_n 0, 1) := by decide +kernel
theorem dX6_tip_23 : decode cX6_tip 23 = .ok (.iload_n 1, 1) := by decide +kernel
theorem dX6_tip_24 : decode cX6_tip 24 = .ok (.invokevirtual 36, 3) := by decide +kernel
theorem dX6_tip_27 : decode cX6_tip 27 = .ok (.istore_n 2, 1) := by decide +kernel
theorem dX6_tip_28 : decode cX6_tip 28 = .ok (.aload_n 0, 1) := by decide +kernel
theorem dX6_tip_29 : decode cX6_tip 29 = .ok (.getfield 7, 3) := by decide +kernel
theorem dX6_tip_32 : decode cX6_tip 32 = .ok (.sipush 347, 3) := by decide +kernel
theorem dX6_tip_35 : decode cX6_tip 35 = .ok (.dup2, 1) := by decide +kernel
theorem dX6_tip_36 : decode cX6_tip 36 = .ok (.iaload, 1) := by decide +kernel
theorem dX6_tip_37 : decode cX6_tip 37 = .ok (.aload_n 0, 1) := by decide +kernel
theorem dX6_tip_38 : decode cX6_tip 38 = .ok (.iload_n 1, 1) := by decide +kernel
theorem dX6_tip_39 : decode cX6_tip 39 = .ok (.invokevirtual 107, 3) := by decide +kernel
theorem dX6_tip_42 : decode cX6_tip 42 = .ok (.iadd, 1) := by decide +kernel
theorem dX6_tip_43 : decode cX6_tip 43 = .ok (.iastore, 1) := by decide +kernel
theorem dX6_tip_44 : decode cX6_tip 44 = .ok (.iconst 0, 1) := by decide +kernel
theorem dX6_tip_45 : decode cX6_tip 45 = .ok (.istore_n 3, 1) := by decide +kernel
theorem dX6_tip_46 : decode cX6_tip 46 = .ok (.iload_n 3, 1) := by decide +kernel
theorem dX6_tip_47 : decode cX6_tip 47 = .ok (.bipush 40, 2) := by decide +kernel
theorem dX6_tip_49 : decode cX6_tip 49 = .ok (.if_icmp .gt 21, 3) := by decide +kernel
theorem dX6_tip_52 : decode cX6_tip 52 = .ok (.aload_n 0, 1) := by decide +kernel
theorem dX6_tip_53 : decode cX6_tip 53 = .ok (.getfield 7, 3) := by decide +kernel
theorem dX6_tip_56 : decode cX6_tip 56 = .ok (.bipush 41, 2) := by decide +kernel
theorem dX6_tip_58 : decode cX6_tip 58 = .ok (.iload_n 1, 1) := by decide +kernel
theorem dX6_tip_59 : decode cX6_tip 59 = .ok (.imul, 1) := by decide +kernel
theorem dX6_tip_60 : decode cX6_tip 60 = .ok (.iload_n 3, 1) := by decide +kernel
theorem dX6_tip_61 : decode cX6_tip 61 = .ok (.iadd, 1) := by decide +kernel
theorem dX6_tip_62 : decode cX6_tip 62 = .ok (.iconst 0, 1) := by decide +kernel
theorem dX6_tip_63 : decode cX6_tip 63 = .ok (.iastore, 1) := by decide +kernel
theorem dX6_tip_64 : decode cX6_tip 64 = .ok (.iinc 3 1, 3) := by decide +kernel
theorem dX6_tip_67 : decode cX6_tip 67 = .ok (.goto (-21), 3) := by decide +kernel
theorem dX6_tip_70 : decode cX6_tip 70 = .ok (.iload_n 2, 1) := by decide +kernel
theorem dX6_tip_71 : decode cX6_tip 71 = .ok (.ireturn, 1) := by decide +kernel
set_option maxRecDepth 20000 in
theorem ggX6_feed_X6_in : GoodIn wsX6_feed wsX6_in := goodIn_r _ [6] (by decide +kernel) (by decide +kernel)
set_option maxRecDepth 20000 in
theorem gX6_feed_X6_in : GoodIn wsX6_feed (va_wsS RX6 32 yX6_in wsX6_in) := goodIn_app (goodIn_of _ (by decide +kernel)) ggX6_feed_X6_in
set_option maxRecDepth 20000 in
theorem ggX6_feed_X6_throwing : GoodIn wsX6_feed wsX6_throwing := goodIn_r _ [10, 1, 21, 22, 23, 24, 25, 26, 27, 28, 29, 30, 31] (by decide +kernel) (by decide +kernel)
set_option maxRecDepth 20000 in
theorem gX6_feed_X6_throwing : GoodIn wsX6_feed (wsV RX6 98 RX6 yX6_throwing wsX6_throwing) := goodIn_app (goodIn_of _ (by decide +kernel)) ggX6_feed_X6_throwing
set_option maxRecDepth 20000 in
theorem ggX6_feed_X6_save : GoodIn wsX6_feed wsX6_save := goodIn_r _ [14, 15, 16, 2, 21, 22, 23, 24, 25, 26, 27, 28, 29, 30, 31] (by decide +kernel) (by decide +kernel)
set_option maxRecDepth 20000 in
theorem gX6_feed_X6_save : GoodIn wsX6_feed (wsV RX6 104 RX6 yX6_save wsX6_save) := goodIn_app (goodIn_of _ (by decide +kernel)) ggX6_feed_X6_save
set_option maxRecDepth 20000 in
theorem ggX6_feed_X6_forget : GoodIn wsX6_feed wsX6_forget := goodIn_r _ [20, 2, 21, 22, 23, 24, 25, 26, 27, 28, 29, 30, 31] (by decide +kernel) (by decide +kernel)
set_option maxRecDepth 20000 in
theorem gX6_feed_X6_forget : GoodIn wsX6_feed (wsV RX6 110 RX6 yX6_forget wsX6_forget) := goodIn_app (goodIn_of _ (by decide +kernel)) ggX6_feed_X6_forget
theorem dX6_feed_0 : decode cX6_feed 0 = .ok (.aload_n 0, 1) := by decide +kernel
theorem dX6_feed_1 : decode cX6_feed 1 = .ok (.iconst 0, 1) := by decide +kernel
theorem dX6_feed_2 : decode cX6_feed 2 = .ok (.putfield 25, 3) := by decide +kernel
theorem dX6_feed_5 : decode cX6_feed 5 = .ok (.iload_n 1, 1) := by decide +kernel
theorem dX6_feed_6 : decode cX6_feed 6 = .ok (.iconst 0, 1) := by decide +kernel
theorem dX6_feed_7 : decode cX6_feed 7 = .ok (.sipush 255, 3) := by decide +kernel
theorem dX6_feed_10 : decode cX6_feed 10 = .ok (.invokestatic 32, 3) := by decide +kernel
theorem dX6_feed_13 : decode cX6_feed 13 = .ok (.ifCond .ne 9, 3) := by decide +kernel
theorem dX6_feed_16 : decode cX6_feed 16 = .ok (.aload_n 0, 1) := by decide +kernel
theorem dX6_feed_17 : decode cX6_feed 17 = .ok (.iconst 1, 1) := by decide +kernel
theorem dX6_feed_18 : decode cX6_feed 18 = .ok (.invokevirtual 98, 3) := by decide +kernel
theorem dX6_feed_21 : decode cX6_feed 21 = .ok (.ireturn, 1) := by decide +kernel
theorem dX6_feed_22 : decode cX6_feed 22 = .ok (.aload_n 0, 1) := by decide +kernel
theorem dX6_feed_23 : decode cX6_feed 23 = .ok (.invokevirtual 104, 3) := by decide +kernel
theorem dX6_feed_26 : decode cX6_feed 26 = .ok (.aload_n 0, 1) := by decide +kernel
theorem dX6_feed_27 : decode cX6_feed 27 = .ok (.getfield 7, 3) := by decide +kernel
theorem dX6_feed_30 : decode cX6_feed 30 = .ok (.sipush 328, 3) := by decide +kernel
theorem dX6_feed_33 : decode cX6_feed 33 = .ok (.iaload, 1) := by decide +kernel
theorem dX6_feed_34 : decode cX6_feed 34 = .ok (.istore_n 2, 1) := by decide +kernel
theorem dX6_feed_35 : decode cX6_feed 35 = .ok (.aload_n 0, 1) := by decide +kernel
theorem dX6_feed_36 : decode cX6_feed 36 = .ok (.getfield 7, 3) := by decide +kernel
theorem dX6_feed_39 : decode cX6_feed 39 = .ok (.sipush 328, 3) := by decide +kernel
theorem dX6_feed_42 : decode cX6_feed 42 = .ok (.iload_n 1, 1) := by decide +kernel
theorem dX6_feed_43 : decode cX6_feed 43 = .ok (.iastore, 1) := by decide +kernel
theorem dX6_feed_44 : decode cX6_feed 44 = .ok (.iload_n 2, 1) := by decide +kernel
theorem dX6_feed_45 : decode cX6_feed 45 = .ok (.iload_n 1, 1) := by decide +kernel
theorem dX6_feed_46 : decode cX6_feed 46 = .ok (.if_icmp .eq 7, 3) := by decide +kernel
theorem dX6_feed_49 : decode cX6_feed 49 = .ok (.aload_n 0, 1) := by decide +kernel
theorem dX6_feed_50 : decode cX6_feed 50 = .ok (.invokevirtual 110, 3) := by decide +kernel
theorem dX6_feed_53 : decode cX6_feed 53 = .ok (.iload_n 2, 1) := by decide +kernel
theorem dX6_feed_54 : decode cX6_feed 54 = .ok (.ireturn, 1) := by decide +kernel
set_option maxRecDepth 20000 in
theorem ggX6_out_X6_isCan : GoodIn wsX6_out wsX6_isCan := goodIn_r _ [6, 7, 8, 5, 9] (by decide +kernel) (by decide +kernel)
set_option maxRecDepth 20000 in
theorem gX6_out_X6_isCan : GoodIn wsX6_out (va_wsS RX6 95 yX6_isCan wsX6_isCan) := goodIn_app (goodIn_of _ (by decide +kernel)) ggX6_out_X6_isCan
set_option maxRecDepth 20000 in
theorem ggX6_out_X6_throwing : GoodIn wsX6_out wsX6_throwing := goodIn_r _ [13, 1, 20, 21, 22, 23, 24, 25, 26, 27, 28, 29, 30] (by decide +kernel) (by decide +kernel)
set_option maxRecDepth 20000 in
theorem gX6_out_X6_throwing : GoodIn wsX6_out (wsV RX6 98 RX6 yX6_throwing wsX6_throwing) := goodIn_app (goodIn_of _ (by decide +kernel)) ggX6_out_X6_throwing
set_option maxRecDepth 20000 in
theorem ggX6_out_X6_save : GoodIn wsX6_out wsX6_save := goodIn_r _ [17, 18, 19, 2, 20, 21, 22, 23, 24, 25, 26, 27, 28, 29, 30] (by decide +kernel) (by decide +kernel)
set_option maxRecDepth 20000 in
theorem gX6_out_X6_save : GoodIn wsX6_out (wsV RX6 104 RX6 yX6_save wsX6_save) := goodIn_app (goodIn_of _ (by decide +kernel)) ggX6_out_X6_save
theorem dX6_out_0 : decode cX6_out 0 = .ok (.aload_n 0, 1) := by decide +kernel
theorem dX6_out_1 : decode cX6_out 1 = .ok (.iconst 0, 1) := by decide +kernel
theorem dX6_out_2 : decode cX6_out 2 = .ok (.putfield 25, 3) := by decide +kernel
theorem dX6_out_5 : decode cX6_out 5 = .ok (.iload_n 1, 1) := by decide +kernel
theorem dX6_out_6 : decode cX6_out 6 = .ok (.invokestatic 95, 3) := by decide +kernel
theorem dX6_out_9 : decode cX6_out 9 = .ok (.ifCond .ne 9, 3) := by decide +kernel
theorem dX6_out_12 : decode cX6_out 12 = .ok (.aload_n 0, 1) := by decide +kernel
theorem dX6_out_13 : decode cX6_out 13 = .ok (.iconst 1, 1) := by decide +kernel
theorem dX6_out_14 : decode cX6_out 14 = .ok (.invokevirtual 98, 3) := by decide +kernel
theorem dX6_out_17 : decode cX6_out 17 = .ok (.ireturn, 1) := by decide +kernel
theorem dX6_out_18 : decode cX6_out 18 = .ok (.aload_n 0, 1) := by decide +kernel
theorem dX6_out_19 : decode cX6_out 19 = .ok (.invokevirtual 104, 3) := by decide +kernel
theorem dX6_out_22 : decode cX6_out 22 = .ok (.aload_n 0, 1) := by decide +kernel
theorem dX6_out_23 : decode cX6_out 23 = .ok (.getfield 7, 3) := by decide +kernel
theorem dX6_out_26 : decode cX6_out 26 = .ok (.sipush 329, 3) := by decide +kernel
theorem dX6_out_29 : decode cX6_out 29 = .ok (.iaload, 1) := by decide +kernel
theorem dX6_out_30 : decode cX6_out 30 = .ok (.istore_n 2, 1) := by decide +kernel
theorem dX6_out_31 : decode cX6_out 31 = .ok (.aload_n 0, 1) := by decide +kernel
theorem dX6_out_32 : decode cX6_out 32 = .ok (.getfield 7, 3) := by decide +kernel
theorem dX6_out_35 : decode cX6_out 35 = .ok (.sipush 329, 3) := by decide +kernel
theorem dX6_out_38 : decode cX6_out 38 = .ok (.iload_n 1, 1) := by decide +kernel
theorem dX6_out_39 : decode cX6_out 39 = .ok (.iastore, 1) := by decide +kernel
theorem dX6_out_40 : decode cX6_out 40 = .ok (.iload_n 2, 1) := by decide +kernel
theorem dX6_out_41 : decode cX6_out 41 = .ok (.ireturn, 1) := by decide +kernel
set_option maxRecDepth 20000 in
theorem ggX6_run_X6_in : GoodIn wsX6_run wsX6_in := goodIn_r _ [5] (by decide +kernel) (by decide +kernel)
set_option maxRecDepth 20000 in
theorem gX6_run_X6_in : GoodIn wsX6_run (va_wsS RX6 32 yX6_in wsX6_in) := goodIn_app (goodIn_of _ (by decide +kernel)) ggX6_run_X6_in
set_option maxRecDepth 20000 in
theorem ggX6_run_X6_throwing : GoodIn wsX6_run wsX6_throwing := goodIn_r _ [9, 1, 61, 62, 63, 64, 65, 66, 67, 68, 69, 70, 71] (by decide +kernel) (by decide +kernel)
set_option maxRecDepth 20000 in
theorem gX6_run_X6_throwing : GoodIn wsX6_run (wsV RX6 98 RX6 yX6_throwing wsX6_throwing) := goodIn_app (goodIn_of _ (by decide +kernel)) ggX6_run_X6_throwing
set_option maxRecDepth 20000 in
theorem ggX6_run_X6_save : GoodIn wsX6_run wsX6_save := goodIn_r _ [13, 14, 15, 16, 61, 62, 63, 64, 65, 66, 67, 68, 69, 70, 71] (by decide +kernel) (by decide +kernel)
set_option maxRecDepth 20000 in
theorem gX6_run_X6_save : GoodIn wsX6_run (wsV RX6 104 RX6 yX6_save wsX6_save) := goodIn_app (goodIn_of _ (by decide +kernel)) ggX6_run_X6_save
set_option maxRecDepth 20000 in
theorem ggX6_run_X6_runs : GoodIn wsX6_run wsX6_runs := goodIn_r _ [20, 21, 22, 23, 4, 24, 16, 25, 26, 27, 28, 29, 30, 31, 32, 33, 34, 35, 36, 37, 38, 39, 40, 41, 42, 43, 44, 45, 46, 47, 48, 49, 50, 51, 52, 53, 54, 55, 56, 57, 58, 59, 60, 61, 62, 63, 64, 65, 66, 67, 68, 69, 70, 71] (by decide +kernel) (by decide +kernel)
set_option maxRecDepth 20000 in
theorem gX6_run_X6_runs : GoodIn wsX6_run (wsV RX6 113 RX6 yX6_runs wsX6_runs) := goodIn_app (goodIn_of _ (by decide +kernel)) ggX6_run_X6_runs
theorem dX6_run_0 : decode cX6_run 0 = .ok (.aload_n 0, 1) := by decide +kernel
theorem dX6_run_1 : decode cX6_run 1 = .ok (.iconst 0, 1) := by decide +kernel
theorem dX6_run_2 : decode cX6_run 2 = .ok (.putfield 25, 3) := by decide +kernel
theorem dX6_run_5 : decode cX6_run 5 = .ok (.iload_n 1, 1) := by decide +kernel
theorem dX6_run_6 : decode cX6_run 6 = .ok (.iconst 1, 1) := by decide +kernel
theorem dX6_run_7 : decode cX6_run 7 = .ok (.bipush 40, 2) := by decide +kernel
theorem dX6_run_9 : decode cX6_run 9 = .ok (.invokestatic 32, 3) := by decide +kernel
theorem dX6_run_12 : decode cX6_run 12 = .ok (.ifCond .ne 9, 3) := by decide +kernel
theorem dX6_run_15 : decode cX6_run 15 = .ok (.aload_n 0, 1) := by decide +kernel
theorem dX6_run_16 : decode cX6_run 16 = .ok (.iconst 1, 1) := by decide +kernel
theorem dX6_run_17 : decode cX6_run 17 = .ok (.invokevirtual 98, 3) := by decide +kernel
theorem dX6_run_20 : decode cX6_run 20 = .ok (.ireturn, 1) := by decide +kernel
theorem dX6_run_21 : decode cX6_run 21 = .ok (.aload_n 0, 1) := by decide +kernel
theorem dX6_run_22 : decode cX6_run 22 = .ok (.invokevirtual 104, 3) := by decide +kernel
theorem dX6_run_25 : decode cX6_run 25 = .ok (.aload_n 0, 1) := by decide +kernel
theorem dX6_run_26 : decode cX6_run 26 = .ok (.iload_n 1, 1) := by decide +kernel
theorem dX6_run_27 : decode cX6_run 27 = .ok (.invokevirtual 113, 3) := by decide +kernel
theorem dX6_run_30 : decode cX6_run 30 = .ok (.ireturn, 1) := by decide +kernel
set_option maxRecDepth 20000 in
theorem ggX6_clear_X6_save : GoodIn wsX6_clear wsX6_save := goodIn_r _ [7, 8, 9, 2, 14, 15, 16, 17, 18, 19, 20, 21, 22, 23, 24] (by decide +kernel) (by decide +kernel)
set_option maxRecDepth 20000 in
theorem gX6_clear_X6_save : GoodIn wsX6_clear (wsV RX6 104 RX6 yX6_save wsX6_save) := goodIn_app (goodIn_of _ (by decide +kernel)) ggX6_clear_X6_save
set_option maxRecDepth 20000 in
theorem ggX6_clear_X6_forget : GoodIn wsX6_clear wsX6_forget := goodIn_r _ [13, 2, 14, 15, 16, 17, 18, 19, 20, 21, 22, 23, 24] (by decide +kernel) (by decide +kernel)
set_option maxRecDepth 20000 in
theorem gX6_clear_X6_forget : GoodIn wsX6_clear (wsV RX6 110 RX6 yX6_forget wsX6_forget) := goodIn_app (goodIn_of _ (by decide +kernel)) ggX6_clear_X6_forget
theorem dX6_clear_0 : decode cX6_clear 0 = .ok (.aload_n 0, 1) := by decide +kernel
theorem dX6_clear_1 : decode cX6_clear 1 = .ok (.iconst 0, 1) := by decide +kernel
theorem dX6_clear_2 : decode cX6_clear 2 = .ok (.putfield 25, 3) := by decide +kernel
theorem dX6_clear_5 : decode cX6_clear 5 = .ok (.aload_n 0, 1) := by decide +kernel
theorem dX6_clear_6 : decode cX6_clear 6 = .ok (.invokevirtual 104, 3) := by decide +kernel
theorem dX6_clear_9 : decode cX6_clear 9 = .ok (.aload_n 0, 1) := by decide +kernel
theorem dX6_clear_10 : decode cX6_clear 10 = .ok (.getfield 7, 3) := by decide +kernel
theorem dX6_clear_13 : decode cX6_clear 13 = .ok (.sipush 330, 3) := by decide +kernel
theorem dX6_clear_16 : decode cX6_clear 16 = .ok (.iaload, 1) := by decide +kernel
theorem dX6_clear_17 : decode cX6_clear 17 = .ok (.istore_n 1, 1) := by decide +kernel
theorem dX6_clear_18 : decode cX6_clear 18 = .ok (.aload_n 0, 1) := by decide +kernel
theorem dX6_clear_19 : decode cX6_clear 19 = .ok (.getfield 7, 3) := by decide +kernel
theorem dX6_clear_22 : decode cX6_clear 22 = .ok (.sipush 330, 3) := by decide +kernel
theorem dX6_clear_25 : decode cX6_clear 25 = .ok (.iconst 0, 1) := by decide +kernel
theorem dX6_clear_26 : decode cX6_clear 26 = .ok (.iastore, 1) := by decide +kernel
theorem dX6_clear_27 : decode cX6_clear 27 = .ok (.aload_n 0, 1) := by decide +kernel
theorem dX6_clear_28 : decode cX6_clear 28 = .ok (.invokevirtual 110, 3) := by decide +kernel
theorem dX6_clear_31 : decode cX6_clear 31 = .ok (.iload_n 1, 1) := by decide +kernel
theorem dX6_clear_32 : decode cX6_clear 32 = .ok (.ireturn, 1) := by decide +kernel
set_option maxRecDepth 20000 in
theorem ggX6_set_X6_in : GoodIn wsX6_set wsX6_in := goodIn_r _ [6] (by decide +kernel) (by decide +kernel)
set_option maxRecDepth 20000 in
theorem gX6_set_X6_in : GoodIn wsX6_set (va_wsS RX6 32 yX6_in wsX6_in) := goodIn_app (goodIn_of _ (by decide +kernel)) ggX6_set_X6_in
set_option maxRecDepth 20000 in
theorem ggX6_set_X6_throwing : GoodIn wsX6_set wsX6_throwing := goodIn_r _ [10, 1, 17, 18, 19, 20, 21, 22, 23, 24, 25, 26, 27] (by decide +kernel) (by decide +kernel)
set_option maxRecDepth 20000 in
theorem gX6_set_X6_throwing : GoodIn wsX6_set (wsV RX6 98 RX6 yX6_throwing wsX6_throwing) := goodIn_app (goodIn_of _ (by decide +kernel)) ggX6_set_X6_throwing
set_option maxRecDepth 20000 in
theorem ggX6_set_X6_save : GoodIn wsX6_set wsX6_save := goodIn_r _ [14, 15, 16, 2, 17, 18, 19, 20, 21, 22, 23, 24, 25, 26, 27] (by decide +kernel) (by decide +kernel)
set_option maxRecDepth 20000 in
theorem gX6_set_X6_save : GoodIn wsX6_set (wsV RX6 104 RX6 yX6_save wsX6_save) := goodIn_app (goodIn_of _ (by decide +kernel)) ggX6_set_X6_save
theorem dX6_set_0 : decode cX6_set 0 = .ok (.aload_n 0, 1) := by decide +kernel
theorem dX6_set_1 : decode cX6_set 1 = .ok (.iconst 0, 1) := by decide +kernel
theorem dX6_set_2 : decode cX6_set 2 = .ok (.putfield 25, 3) := by decide +kernel
theorem dX6_set_5 : decode cX6_set 5 = .ok (.iload_n 1, 1) := by decide +kernel
theorem dX6_set_6 : decode cX6_set 6 = .ok (.iconst 0, 1) := by decide +kernel
theorem dX6_set_7 : decode cX6_set 7 = .ok (.iconst 4, 1) := by decide +kernel
theorem dX6_set_8 : decode cX6_set 8 = .ok (.invokestatic 32, 3) := by decide +kernel
theorem dX6_set_11 : decode cX6_set 11 = .ok (.ifCond .ne 9, 3) := by decide +kernel
theorem dX6_set_14 : decode cX6_set 14 = .ok (.aload_n 0, 1) := by decide +kernel
theorem dX6_set_15 : decode cX6_set 15 = .ok (.iconst 1, 1) := by decide +kernel
theorem dX6_set_16 : decode cX6_set 16 = .ok (.invokevirtual 98, 3) := by decide +kernel
theorem dX6_set_19 : decode cX6_set 19 = .ok (.ireturn, 1) := by decide +kernel
theorem dX6_set_20 : decode cX6_set 20 = .ok (.iload_n 1, 1) := by decide +kernel
theorem dX6_set_21 : decode cX6_set 21 = .ok (.ifCond .eq 8, 3) := by decide +kernel
theorem dX6_set_24 : decode cX6_set 24 = .ok (.iload_n 1, 1) := by decide +kernel
theorem dX6_set_25 : decode cX6_set 25 = .ok (.iconst 3, 1) := by decide +kernel
theorem dX6_set_26 : decode cX6_set 26 = .ok (.if_icmp .ne 7, 3) := by decide +kernel
theorem dX6_set_29 : decode cX6_set 29 = .ok (.iconst 0, 1) := by decide +kernel
theorem dX6_set_30 : decode cX6_set 30 = .ok (.goto 14, 3) := by decide +kernel
theorem dX6_set_33 : decode cX6_set 33 = .ok (.iload_n 1, 1) := by decide +kernel
theorem dX6_set_34 : decode cX6_set 34 = .ok (.iconst 4, 1) := by decide +kernel
theorem dX6_set_35 : decode cX6_set 35 = .ok (.if_icmp .ne 8, 3) := by decide +kernel
theorem dX6_set_38 : decode cX6_set 38 = .ok (.bipush 10, 2) := by decide +kernel
theorem dX6_set_40 : decode cX6_set 40 = .ok (.goto 4, 3) := by decide +kernel
theorem dX6_set_43 : decode cX6_set 43 = .ok (.iconst 1, 1) := by decide +kernel
theorem dX6_set_44 : decode cX6_set 44 = .ok (.istore_n 3, 1) := by decide +kernel
theorem dX6_set_45 : decode cX6_set 45 = .ok (.iload_n 1, 1) := by decide +kernel
theorem dX6_set_46 : decode cX6_set 46 = .ok (.ifCond .ne 8, 3) := by decide +kernel
theorem dX6_set_49 : decode cX6_set 49 = .ok (.bipush 6, 2) := by decide +kernel
theorem dX6_set_51 : decode cX6_set 51 = .ok (.goto 35, 3) := by decide +kernel
theorem dX6_set_54 : decode cX6_set 54 = .ok (.iload_n 1, 1) := by decide +kernel
theorem dX6_set_55 : decode cX6_set 55 = .ok (.iconst 1, 1) := by decide +kernel
theorem dX6_set_56 : decode cX6_set 56 = .ok (.if_icmp .ne 8, 3) := by decide +kernel
theorem dX6_set_59 : decode cX6_set 59 = .ok (.bipush 8, 2) := by decide +kernel
theorem dX6_set_61 : decode cX6_set 61 = .ok (.goto 25, 3) := by decide +kernel
theorem dX6_set_64 : decode cX6_set 64 = .ok (.iload_n 1, 1) := by decide +kernel
theorem dX6_set_65 : decode cX6_set 65 = .ok (.iconst 2, 1) := by decide +kernel
theorem dX6_set_66 : decode cX6_set 66 = .ok (.if_icmp .ne 8, 3) := by decide +kernel
theorem dX6_set_69 : decode cX6_set 69 = .ok (.bipush 99, 2) := by decide +kernel
theorem dX6_set_71 : decode cX6_set 71 = .ok (.goto 15, 3) := by decide +kernel
theorem dX6_set_74 : decode cX6_set 74 = .ok (.iload_n 1, 1) := by decide +kernel
theorem dX6_set_75 : decode cX6_set 75 = .ok (.iconst 3, 1) := by decide +kernel
theorem dX6_set_76 : decode cX6_set 76 = .ok (.if_icmp .ne 7, 3) := by decide +kernel
theorem dX6_set_79 : decode cX6_set 79 = .ok (.iconst 1, 1) := by decide +kernel
theorem dX6_set_80 : decode cX6_set 80 = .ok (.goto 6, 3) := by decide +kernel
theorem dX6_set_83 : decode cX6_set 83 = .ok (.sipush 999, 3) := by decide +kernel
theorem dX6_set_86 : decode cX6_set 86 = .ok (.istore 4, 2) := by decide +kernel
theorem dX6_set_88 : decode cX6_set 88 = .ok (.iload_n 2, 1) := by decide +kernel
theorem dX6_set_89 : decode cX6_set 89 = .ok (.iload_n 3, 1) := by decide +kernel
theorem dX6_set_90 : decode cX6_set 90 = .ok (.iload 4, 2) := by decide +kernel
theorem dX6_set_92 : decode cX6_set 92 = .ok (.invokestatic 32, 3) := by decide +kernel
theorem dX6_set_95 : decode cX6_set 95 = .ok (.ifCond .ne 9, 3) := by decide +kernel
theorem dX6_set_98 : decode cX6_set 98 = .ok (.aload_n 0, 1) := by decide +kernel
theorem dX6_set_99 : decode cX6_set 99 = .ok (.iconst 2, 1) := by decide +kernel
theorem dX6_set_100 : decode cX6_set 100 = .ok (.invokevirtual 98, 3) := by decide +kernel
theorem dX6_set_103 : decode cX6_set 103 = .ok (.ireturn, 1) := by decide +kernel
theorem dX6_set_104 : decode cX6_set 104 = .ok (.aload_n 0, 1) := by decide +kernel
theorem dX6_set_105 : decode cX6_set 105 = .ok (.invokevirtual 104, 3) := by decide +kernel
theorem dX6_set_108 : decode cX6_set 108 = .ok (.aload_n 0, 1) := by decide +kernel
theorem dX6_set_109 : decode cX6_set 109 = .ok (.getfield 7, 3) := by decide +kernel
theorem dX6_set_112 : decode cX6_set 112 = .ok (.sipush 340, 3) := by decide +kernel
theorem dX6_set_115 : decode cX6_set 115 = .ok (.iload_n 1, 1) := by decide +kernel
theorem dX6_set_116 : decode cX6_set 116 = .ok (.iadd, 1) := by decide +kernel
theorem dX6_set_117 : decode cX6_set 117 = .ok (.iaload, 1) := by decide +kernel
theorem dX6_set_118 : decode cX6_set 118 = .ok (.istore 5, 2) := by decide +kernel
theorem dX6_set_120 : decode cX6_set 120 = .ok (.aload_n 0, 1) := by decide +kernel
theorem dX6_set_121 : decode cX6_set 121 = .ok (.getfield 7, 3) := by decide +kernel
theorem dX6_set_124 : decode cX6_set 124 = .ok (.sipush 340, 3) := by decide +kernel
theorem dX6_set_127 : decode cX6_set 127 = .ok (.iload_n 1, 1) := by decide +kernel
theorem dX6_set_128 : decode cX6_set 128 = .ok (.iadd, 1) := by decide +kernel
theorem dX6_set_129 : decode cX6_set 129 = .ok (.iload_n 2, 1) := by decide +kernel
theorem dX6_set_130 : decode cX6_set 130 = .ok (.iastore, 1) := by decide +kernel
theorem dX6_set_131 : decode cX6_set 131 = .ok (.iload 5, 2) := by decide +kernel
theorem dX6_set_133 : decode cX6_set 133 = .ok (.ireturn, 1) := by decide +kernel
set_option maxRecDepth 20000 in
theorem ggX6_append_X6_in : GoodIn wsX6_append wsX6_in := goodIn_r _ [7] (by decide +kernel) (by decide +kernel)
set_option maxRecDepth 20000 in
theorem gX6_append_X6_in : GoodIn wsX6_append (va_wsS RX6 32 yX6_in wsX6_in) := goodIn_app (goodIn_of _ (by decide +kernel)) ggX6_append_X6_in
set_option maxRecDepth 20000 in
theorem ggX6_append_X6_throwing : GoodIn wsX6_append wsX6_throwing := goodIn_r _ [11, 1, 12, 13, 14, 15, 16, 17, 18, 19, 20, 21, 22] (by decide +kernel) (by decide +kernel)
set_option maxRecDepth 20000 in
theorem gX6_append_X6_throwing : GoodIn wsX6_append (wsV RX6 98 RX6 yX6_throwing wsX6_throwing) := goodIn_app (goodIn_of _ (by decide +kernel)) ggX6_append_X6_throwing
theorem dX6_append_0 : decode cX6_append 0 = .ok (.aload_n 0, 1) := by decide +kernel
theorem dX6_append_1 : decode cX6_append 1 = .ok (.iconst 0, 1) := by decide +kernel
theorem dX6_append_2 : decode cX6_append 2 = .ok (.putfield 25, 3) := by decide +kernel
theorem dX6_append_5 : decode cX6_append 5 = .ok (.iload_n 1, 1) := by decide +kernel
theorem dX6_append_6 : decode cX6_append 6 = .ok (.bipush 33, 2) := by decide +kernel
theorem dX6_append_8 : decode cX6_append 8 = .ok (.bipush 126, 2) := by decide +kernel
theorem dX6_append_10 : decode cX6_append 10 = .ok (.invokestatic 32, 3) := by decide +kernel
theorem dX6_append_13 : decode cX6_append 13 = .ok (.ifCond .ne 9, 3) := by decide +kernel
theorem dX6_append_16 : decode cX6_append 16 = .ok (.aload_n 0, 1) := by decide +kernel
theorem dX6_append_17 : decode cX6_append 17 = .ok (.iconst 1, 1) := by decide +kernel
theorem dX6_append_18 : decode cX6_append 18 = .ok (.invokevirtual 98, 3) := by decide +kernel
theorem dX6_append_21 : decode cX6_append 21 = .ok (.ireturn, 1) := by decide +kernel
theorem dX6_append_22 : decode cX6_append 22 = .ok (.aload_n 0, 1) := by decide +kernel
theorem dX6_append_23 : decode cX6_append 23 = .ok (.getfield 75, 3) := by decide +kernel
theorem dX6_append_26 : decode cX6_append 26 = .ok (.bipush 60, 2) := by decide +kernel
theorem dX6_append_28 : decode cX6_append 28 = .ok (.if_icmp .ne 9, 3) := by decide +kernel
theorem dX6_append_31 : decode cX6_append 31 = .ok (.aload_n 0, 1) := by decide +kernel
theorem dX6_append_32 : decode cX6_append 32 = .ok (.iconst 2, 1) := by decide +kernel
theorem dX6_append_33 : decode cX6_append 33 = .ok (.invokevirtual 98, 3) := by decide +kernel
theorem dX6_append_36 : decode cX6_append 36 = .ok (.ireturn, 1) := by decide +kernel
theorem dX6_append_37 : decode cX6_append 37 = .ok (.aload_n 0, 1) := by decide +kernel
theorem dX6_append_38 : decode cX6_append 38 = .ok (.getfield 22, 3) := by decide +kernel
theorem dX6_append_41 : decode cX6_append 41 = .ok (.aload_n 0, 1) := by decide +kernel
theorem dX6_append_42 : decode cX6_append 42 = .ok (.getfield 75, 3) := by decide +kernel
theorem dX6_append_45 : decode cX6_append 45 = .ok (.iload_n 1, 1) := by decide +kernel
theorem dX6_append_46 : decode cX6_append 46 = .ok (.iastore, 1) := by decide +kernel
theorem dX6_append_47 : decode cX6_append 47 = .ok (.aload_n 0, 1) := by decide +kernel
theorem dX6_append_48 : decode cX6_append 48 = .ok (.dup, 1) := by decide +kernel
theorem dX6_append_49 : decode cX6_append 49 = .ok (.getfield 75, 3) := by decide +kernel
theorem dX6_append_52 : decode cX6_append 52 = .ok (.iconst 1, 1) := by decide +kernel
theorem dX6_append_53 : decode cX6_append 53 = .ok (.iadd, 1) := by decide +kernel
theorem dX6_append_54 : decode cX6_append 54 = .ok (.putfield 75, 3) := by decide +kernel
theorem dX6_append_57 : decode cX6_append 57 = .ok (.aload_n 0, 1) := by decide +kernel
theorem dX6_append_58 : decode cX6_append 58 = .ok (.getfield 75, 3) := by decide +kernel
theorem dX6_append_61 : decode cX6_append 61 = .ok (.ireturn, 1) := by decide +kernel
theorem dX6_clearBuffer_0 : decode cX6_clearBuffer 0 = .ok (.aload_n 0, 1) := by decide +kernel
theorem dX6_clearBuffer_1 : decode cX6_clearBuffer 1 = .ok (.iconst 0, 1) := by decide +kernel
theorem dX6_clearBuffer_2 : decode cX6_clearBuffer 2 = .ok (.putfield 25, 3) := by decide +kernel
theorem dX6_clearBuffer_5 : decode cX6_clearBuffer 5 = .ok (.aload_n 0, 1) := by decide +kernel
theorem dX6_clearBuffer_6 : decode cX6_clearBuffer 6 = .ok (.getfield 75, 3) := by decide +kernel
theorem dX6_clearBuffer_9 : decode cX6_clearBuffer 9 = .ok (.istore_n 1, 1) := by decide +kernel
theorem dX6_clearBuffer_10 : decode cX6_clearBuffer 10 = .ok (.aload_n 0, 1) := by decide +kernel
theorem dX6_clearBuffer_11 : decode cX6_clearBuffer 11 = .ok (.iconst 0, 1) := by decide +kernel
theorem dX6_clearBuffer_12 : decode cX6_clearBuffer 12 = .ok (.putfield 75, 3) := by decide +kernel
theorem dX6_clearBuffer_15 : decode cX6_clearBuffer 15 = .ok (.iload_n 1, 1) := by decide +kernel
theorem dX6_clearBuffer_16 : decode cX6_clearBuffer 16 = .ok (.ireturn, 1) := by decide +kernel
set_option maxRecDepth 20000 in
theorem ggX6_firstError_X6_go : GoodIn wsX6_firstError wsX6_go := goodIn_r _ [9, 3, 2, 10, 4, 11, 12, 13, 8, 14, 15, 16, 17, 18, 19, 20, 21, 22, 23, 24, 25, 26, 27, 28, 29, 30, 31, 32, 33, 34, 35, 36, 37, 38, 39, 40, 41, 42, 43, 44, 45, 46, 47, 48, 49] (by decide +kernel) (by decide +kernel)
set_option maxRecDepth 20000 in
theorem gX6_firstError_X6_go : GoodIn wsX6_firstError (wsV RX6 101 RX6 yX6_go wsX6_go) := goodIn_app (goodIn_of _ (by decide +kernel)) ggX6_firstError_X6_go
theorem dX6_firstError_0 : decode cX6_firstError 0 = .ok (.aload_n 0, 1) := by decide +kernel
theorem dX6_firstError_1 : decode cX6_firstError 1 = .ok (.iconst 0, 1) := by decide +kernel
theorem dX6_firstError_2 : decode cX6_firstError 2 = .ok (.putfield 25, 3) := by decide +kernel
theorem dX6_firstError_5 : decode cX6_firstError 5 = .ok (.aload_n 0, 1) := by decide +kernel
theorem dX6_firstError_6 : decode cX6_firstError 6 = .ok (.iconst (-1), 1) := by decide +kernel
theorem dX6_firstError_7 : decode cX6_firstError 7 = .ok (.invokevirtual 101, 3) := by decide +kernel
theorem dX6_firstError_10 : decode cX6_firstError 10 = .ok (.istore_n 1, 1) := by decide +kernel
theorem dX6_firstError_11 : decode cX6_firstError 11 = .ok (.aload_n 0, 1) := by decide +kernel
theorem dX6_firstError_12 : decode cX6_firstError 12 = .ok (.getfield 78, 3) := by decide +kernel
theorem dX6_firstError_15 : decode cX6_firstError 15 = .ok (.ifCond .eq 10, 3) := by decide +kernel
theorem dX6_firstError_18 : decode cX6_firstError 18 = .ok (.aload_n 0, 1) := by decide +kernel
theorem dX6_firstError_19 : decode cX6_firstError 19 = .ok (.getfield 72, 3) := by decide +kernel
theorem dX6_firstError_22 : decode cX6_firstError 22 = .ok (.goto 7, 3) := by decide +kernel
theorem dX6_firstError_25 : decode cX6_firstError 25 = .ok (.aload_n 0, 1) := by decide +kernel
theorem dX6_firstError_26 : decode cX6_firstError 26 = .ok (.getfield 75, 3) := by decide +kernel
theorem dX6_firstError_29 : decode cX6_firstError 29 = .ok (.ireturn, 1) := by decide +kernel
theorem dX6_keep_0 : decode cX6_keep 0 = .ok (.aload_n 0, 1) := by decide +kernel
theorem dX6_keep_1 : decode cX6_keep 1 = .ok (.iconst 0, 1) := by decide +kernel
theorem dX6_keep_2 : decode cX6_keep 2 = .ok (.putfield 25, 3) := by decide +kernel
theorem dX6_keep_5 : decode cX6_keep 5 = .ok (.iconst 0, 1) := by decide +kernel
theorem dX6_keep_6 : decode cX6_keep 6 = .ok (.istore_n 1, 1) := by decide +kernel
theorem dX6_keep_7 : decode cX6_keep 7 = .ok (.iload_n 1, 1) := by decide +kernel
theorem dX6_keep_8 : decode cX6_keep 8 = .ok (.sipush 350, 3) := by decide +kernel
theorem dX6_keep_11 : decode cX6_keep 11 = .ok (.if_icmp .ge 21, 3) := by decide +kernel
theorem dX6_keep_14 : decode cX6_keep 14 = .ok (.aload_n 0, 1) := by decide +kernel
theorem dX6_keep_15 : decode cX6_keep 15 = .ok (.getfield 19, 3) := by decide +kernel
theorem dX6_keep_18 : decode cX6_keep 18 = .ok (.iload_n 1, 1) := by decide +kernel
theorem dX6_keep_19 : decode cX6_keep 19 = .ok (.aload_n 0, 1) := by decide +kernel
theorem dX6_keep_20 : decode cX6_keep 20 = .ok (.getfield 7, 3) := by decide +kernel
theorem dX6_keep_23 : decode cX6_keep 23 = .ok (.iload_n 1, 1) := by decide +kernel
theorem dX6_keep_24 : decode cX6_keep 24 = .ok (.iaload, 1) := by decide +kernel
theorem dX6_keep_25 : decode cX6_keep 25 = .ok (.iastore, 1) := by decide +kernel
theorem dX6_keep_26 : decode cX6_keep 26 = .ok (.iinc 1 1, 3) := by decide +kernel
theorem dX6_keep_29 : decode cX6_keep 29 = .ok (.goto (-22), 3) := by decide +kernel
theorem dX6_keep_32 : decode cX6_keep 32 = .ok (.aload_n 0, 1) := by decide +kernel
theorem dX6_keep_33 : decode cX6_keep 33 = .ok (.iconst 1, 1) := by decide +kernel
theorem dX6_keep_34 : decode cX6_keep 34 = .ok (.putfield 116, 3) := by decide +kernel
theorem dX6_keep_37 : decode cX6_keep 37 = .ok (.aload_n 0, 1) := by decide +kernel
theorem dX6_keep_38 : decode cX6_keep 38 = .ok (.getfield 7, 3) := by decide +kernel
theorem dX6_keep_41 : decode cX6_keep 41 = .ok (.sipush 345, 3) := by decide +kernel
theorem dX6_keep_44 : decode cX6_keep 44 = .ok (.iaload, 1) := by decide +kernel
theorem dX6_keep_45 : decode cX6_keep 45 = .ok (.ireturn, 1) := by decide +kernel
set_option maxRecDepth 20000 in
theorem ggX6_goBack_X6_throwing : GoodIn wsX6_goBack wsX6_throwing := goodIn_r _ [9, 1, 16, 17, 18, 19, 20, 21, 22, 23, 24, 25, 26] (by decide +kernel) (by decide +kernel)
set_option maxRecDepth 20000 in
theorem gX6_goBack_X6_throwing : GoodIn wsX6_goBack (wsV RX6 98 RX6 yX6_throwing wsX6_throwing) := goodIn_app (goodIn_of _ (by decide +kernel)) ggX6_goBack_X6_throwing
set_option maxRecDepth 20000 in
theorem ggX6_goBack_X6_save : GoodIn wsX6_goBack wsX6_save := goodIn_r _ [13, 14, 15, 3, 16, 17, 18, 19, 20, 21, 22, 23, 24, 25, 26] (by decide +kernel) (by decide +kernel)
set_option maxRecDepth 20000 in
theorem gX6_goBack_X6_save : GoodIn wsX6_goBack (wsV RX6 104 RX6 yX6_save wsX6_save) := goodIn_app (goodIn_of _ (by decide +kernel)) ggX6_goBack_X6_save
theorem dX6_goBack_0 : decode cX6_goBack 0 = .ok (.aload_n 0, 1) := by decide +kernel
theorem dX6_goBack_1 : decode cX6_goBack 1 = .ok (.iconst 0, 1) := by decide +kernel
theorem dX6_goBack_2 : decode cX6_goBack 2 = .ok (.putfield 25, 3) := by decide +kernel
theorem dX6_goBack_5 : decode cX6_goBack 5 = .ok (.aload_n 0, 1) := by decide +kernel
theorem dX6_goBack_6 : decode cX6_goBack 6 = .ok (.getfield 116, 3) := by decide +kernel
theorem dX6_goBack_9 : decode cX6_goBack 9 = .ok (.ifCond .ne 9, 3) := by decide +kernel
theorem dX6_goBack_12 : decode cX6_goBack 12 = .ok (.aload_n 0, 1) := by decide +kernel
theorem dX6_goBack_13 : decode cX6_goBack 13 = .ok (.iconst 1, 1) := by decide +kernel
theorem dX6_goBack_14 : decode cX6_goBack 14 = .ok (.invokevirtual 98, 3) := by decide +kernel
theorem dX6_goBack_17 : decode cX6_goBack 17 = .ok (.ireturn, 1) := by decide +kernel
theorem dX6_goBack_18 : decode cX6_goBack 18 = .ok (.aload_n 0, 1) := by decide +kernel
theorem dX6_goBack_19 : decode cX6_goBack 19 = .ok (.invokevirtual 104, 3) := by decide +kernel
theorem dX6_goBack_22 : decode cX6_goBack 22 = .ok (.iconst 0, 1) := by decide +kernel
theorem dX6_goBack_23 : decode cX6_goBack 23 = .ok (.istore_n 1, 1) := by decide +kernel
theorem dX6_goBack_24 : decode cX6_goBack 24 = .ok (.iload_n 1, 1) := by decide +kernel
theorem dX6_goBack_25 : decode cX6_goBack 25 = .ok (.sipush 350, 3) := by decide +kernel
theorem dX6_goBack_28 : decode cX6_goBack 28 = .ok (.if_icmp .ge 21, 3) := by decide +kernel
theorem dX6_goBack_31 : decode cX6_goBack 31 = .ok (.aload_n 0, 1) := by decide +kernel
theorem dX6_goBack_32 : decode cX6_goBack 32 = .ok (.getfield 7, 3) := by decide +kernel
theorem dX6_goBack_35 : decode cX6_goBack 35 = .ok (.iload_n 1, 1) := by decide +kernel
theorem dX6_goBack_36 : decode cX6_goBack 36 = .ok (.aload_n 0, 1) := by decide +kernel
theorem dX6_goBack_37 : decode cX6_goBack 37 = .ok (.getfield 19, 3) := by decide +kernel
theorem dX6_goBack_40 : decode cX6_goBack 40 = .ok (.iload_n 1, 1) := by decide +kernel
theorem dX6_goBack_41 : decode cX6_goBack 41 = .ok (.iaload, 1) := by decide +kernel
theorem dX6_goBack_42 : decode cX6_goBack 42 = .ok (.iastore, 1) := by decide +kernel
theorem dX6_goBack_43 : decode cX6_goBack 43 = .ok (.iinc 1 1, 3) := by decide +kernel
theorem dX6_goBack_46 : decode cX6_goBack 46 = .ok (.goto (-22), 3) := by decide +kernel
theorem dX6_goBack_49 : decode cX6_goBack 49 = .ok (.aload_n 0, 1) := by decide +kernel
theorem dX6_goBack_50 : decode cX6_goBack 50 = .ok (.getfield 7, 3) := by decide +kernel
theorem dX6_goBack_53 : decode cX6_goBack 53 = .ok (.sipush 345, 3) := by decide +kernel
theorem dX6_goBack_56 : decode cX6_goBack 56 = .ok (.iaload, 1) := by decide +kernel
theorem dX6_goBack_57 : decode cX6_goBack 57 = .ok (.ireturn, 1) := by decide +kernel
set_option maxRecDepth 20000 in
theorem ggX6_undo_X6_throwing : GoodIn wsX6_undo wsX6_throwing := goodIn_r _ [9, 1, 10, 11, 12, 13, 14, 15, 16, 17, 18, 19, 20] (by decide +kernel) (by decide +kernel)
set_option maxRecDepth 20000 in
theorem gX6_undo_X6_throwing : GoodIn wsX6_undo (wsV RX6 98 RX6 yX6_throwing wsX6_throwing) := goodIn_app (goodIn_of _ (by decide +kernel)) ggX6_undo_X6_throwing
theorem dX6_undo_0 : decode cX6_undo 0 = .ok (.aload_n 0, 1) := by decide +kernel
theorem dX6_undo_1 : decode cX6_undo 1 = .ok (.iconst 0, 1) := by decide +kernel
theorem dX6_undo_2 : decode cX6_undo 2 = .ok (.putfield 25, 3) := by decide +kernel
theorem dX6_undo_5 : decode cX6_undo 5 = .ok (.aload_n 0, 1) := by decide +kernel
theorem dX6_undo_6 : decode cX6_undo 6 = .ok (.getfield 29, 3) := by decide +kernel
theorem dX6_undo_9 : decode cX6_undo 9 = .ok (.ifCond .ne 9, 3) := by decide +kernel
theorem dX6_undo_12 : decode cX6_undo 12 = .ok (.aload_n 0, 1) := by decide +kernel
theorem dX6_undo_13 : decode cX6_undo 13 = .ok (.iconst 1, 1) := by decide +kernel
theorem dX6_undo_14 : decode cX6_undo 14 = .ok (.invokevirtual 98, 3) := by decide +kernel
theorem dX6_undo_17 : decode cX6_undo 17 = .ok (.ireturn, 1) := by decide +kernel
theorem dX6_undo_18 : decode cX6_undo 18 = .ok (.aload_n 0, 1) := by decide +kernel
theorem dX6_undo_19 : decode cX6_undo 19 = .ok (.dup, 1) := by decide +kernel
theorem dX6_undo_20 : decode cX6_undo 20 = .ok (.getfield 29, 3) := by decide +kernel
theorem dX6_undo_23 : decode cX6_undo 23 = .ok (.iconst 1, 1) := by decide +kernel
theorem dX6_undo_24 : decode cX6_undo 24 = .ok (.isub, 1) := by decide +kernel
theorem dX6_undo_25 : decode cX6_undo 25 = .ok (.putfield 29, 3) := by decide +kernel
theorem dX6_undo_28 : decode cX6_undo 28 = .ok (.iconst 0, 1) := by decide +kernel
theorem dX6_undo_29 : decode cX6_undo 29 = .ok (.istore_n 1, 1) := by decide +kernel
theorem dX6_undo_30 : decode cX6_undo 30 = .ok (.iload_n 1, 1) := by decide +kernel
theorem dX6_undo_31 : decode cX6_undo 31 = .ok (.sipush 350, 3) := by decide +kernel
theorem dX6_undo_34 : decode cX6_undo 34 = .ok (.if_icmp .ge 30, 3) := by decide +kernel
theorem dX6_undo_37 : decode cX6_undo 37 = .ok (.aload_n 0, 1) := by decide +kernel
theorem dX6_undo_38 : decode cX6_undo 38 = .ok (.getfield 7, 3) := by decide +kernel
theorem dX6_undo_41 : decode cX6_undo 41 = .ok (.iload_n 1, 1) := by decide +kernel
theorem dX6_undo_42 : decode cX6_undo 42 = .ok (.aload_n 0, 1) := by decide +kernel
theorem dX6_undo_43 : decode cX6_undo 43 = .ok (.getfield 16, 3) := by decide +kernel
theorem dX6_undo_46 : decode cX6_undo 46 = .ok (.sipush 350, 3) := by decide +kernel
theorem dX6_undo_49 : decode cX6_undo 49 = .ok (.aload_n 0, 1) := by decide +kernel
theorem dX6_undo_50 : decode cX6_undo 50 = .ok (.getfield 29, 3) := by decide +kernel
theorem dX6_undo_53 : decode cX6_undo 53 = .ok (.imul, 1) := by decide +kernel
theorem dX6_undo_54 : decode cX6_undo 54 = .ok (.iload_n 1, 1) := by decide +kernel
theorem dX6_undo_55 : decode cX6_undo 55 = .ok (.iadd, 1) := by decide +kernel
theorem dX6_undo_56 : decode cX6_undo 56 = .ok (.iaload, 1) := by decide +kernel
theorem dX6_undo_57 : decode cX6_undo 57 = .ok (.iastore, 1) := by decide +kernel
theorem dX6_undo_58 : decode cX6_undo 58 = .ok (.iinc 1 1, 3) := by decide +kernel
theorem dX6_undo_61 : decode cX6_undo 61 = .ok (.goto (-31), 3) := by decide +kernel
theorem dX6_undo_64 : decode cX6_undo 64 = .ok (.aload_n 0, 1) := by decide +kernel
theorem dX6_undo_65 : decode cX6_undo 65 = .ok (.getfield 29, 3) := by decide +kernel
theorem dX6_undo_68 : decode cX6_undo 68 = .ok (.ireturn, 1) := by decide +kernel
set_option maxRecDepth 20000 in
theorem ggX6_canNumber_X6_metres : GoodIn wsX6_canNumber wsX6_metres := goodIn_r _ [5, 6, 31, 32, 33, 34, 35, 36, 37, 38, 39, 40, 41] (by decide +kernel) (by decide +kernel)
set_option maxRecDepth 20000 in
theorem gX6_canNumber_X6_metres : GoodIn wsX6_canNumber (wsV RX6 36 RX6 yX6_metres wsX6_metres) := goodIn_app (goodIn_of _ (by decide +kernel)) ggX6_canNumber_X6_metres
set_option maxRecDepth 20000 in
theorem ggX6_canNumber_X6_sum : GoodIn wsX6_canNumber wsX6_sum := goodIn_r _ [10, 1, 2, 3, 4, 5, 6, 11, 12, 13, 14, 31, 32, 33, 34, 35, 36, 37, 38, 39, 40, 41] (by decide +kernel) (by decide +kernel)
set_option maxRecDepth 20000 in
theorem gX6_canNumber_X6_sum : GoodIn wsX6_canNumber (wsV RX6 107 RX6 yX6_sum wsX6_sum) := goodIn_app (goodIn_of _ (by decide +kernel)) ggX6_canNumber_X6_sum
set_option maxRecDepth 20000 in
theorem ggX6_canNumber_X6_least : GoodIn wsX6_canNumber wsX6_least := goodIn_r _ [18, 1, 2, 3, 4, 5, 6, 11, 12, 13, 14, 31, 32, 33, 34, 35, 36, 37, 38, 39, 40, 41] (by decide +kernel) (by decide +kernel)
set_option maxRecDepth 20000 in
theorem gX6_canNumber_X6_least : GoodIn wsX6_canNumber (wsV RX6 119 RX6 yX6_least wsX6_least) := goodIn_app (goodIn_of _ (by decide +kernel)) ggX6_canNumber_X6_least
set_option maxRecDepth 20000 in
theorem ggX6_canNumber_X6_greatest : GoodIn wsX6_canNumber wsX6_greatest := goodIn_r _ [22, 1, 2, 3, 4, 5, 6, 11, 12, 13, 14, 31, 32, 33, 34, 35, 36, 37, 38, 39, 40, 41] (by decide +kernel) (by decide +kernel)
set_option maxRecDepth 20000 in
theorem gX6_canNumber_X6_greatest : GoodIn wsX6_canNumber (wsV RX6 122 RX6 yX6_greatest wsX6_greatest) := goodIn_app (goodIn_of _ (by decide +kernel)) ggX6_canNumber_X6_greatest
set_option maxRecDepth 20000 in
theorem ggX6_canNumber_X6_steps : GoodIn wsX6_canNumber wsX6_steps := goodIn_r _ [26, 1, 2, 3, 4, 5, 6, 11, 12, 13, 14, 31, 32, 33, 34, 35, 36, 37, 38, 39, 40, 41] (by decide +kernel) (by decide +kernel)
set_option maxRecDepth 20000 in
theorem gX6_canNumber_X6_steps : GoodIn wsX6_canNumber (wsV RX6 125 RX6 yX6_steps wsX6_steps) := goodIn_app (goodIn_of _ (by decide +kernel)) ggX6_canNumber_X6_steps
set_option maxRecDepth 20000 in
theorem ggX6_canNumber_X6_isFed : GoodIn wsX6_canNumber wsX6_isFed := goodIn_r _ [30, 6, 31, 32, 33, 34, 35, 36, 37, 38, 39, 40, 41] (by decide +kernel) (by decide +kernel)
set_option maxRecDepth 20000 in
theorem gX6_canNumber_X6_isFed : GoodIn wsX6_canNumber (wsV RX6 44 RX6 yX6_isFed wsX6_isFed) := goodIn_app (goodIn_of _ (by decide +kernel)) ggX6_canNumber_X6_isFed
set_option maxRecDepth 20000 in
theorem ggX6_canNumber_X6_weight : GoodIn wsX6_canNumber wsX6_weight := goodIn_r _ [14, 6, 31, 32, 33, 34, 35, 36, 37, 38, 39, 40, 41] (by decide +kernel) (by decide +kernel)
set_option maxRecDepth 20000 in
theorem gX6_canNumber_X6_weight : GoodIn wsX6_canNumber (wsV RX6 40 RX6 yX6_weight wsX6_weight) := goodIn_app (goodIn_of _ (by decide +kernel)) ggX6_canNumber_X6_weight
theorem dX6_canNumber_0 : decode cX6_canNumber 0 = .ok (.aload_n 0, 1) := by decide +kernel
theorem dX6_canNumber_1 : decode cX6_canNumber 1 = .ok (.iload_n 1, 1) := by decide +kernel
theorem dX6_canNumber_2 : decode cX6_canNumber 2 = .ok (.invokevirtual 36, 3) := by decide +kernel
theorem dX6_canNumber_5 : decode cX6_canNumber 5 = .ok (.ifCond .ne 7, 3) := by decide +kernel
theorem dX6_canNumber_8 : decode cX6_canNumber 8 = .ok (.iconst 1, 1) := by decide +kernel
theorem dX6_canNumber_9 : decode cX6_canNumber 9 = .ok (.goto 4, 3) := by decide +kernel
theorem dX6_canNumber_12 : decode cX6_canNumber 12 = .ok (.iconst 0, 1) := by decide +kernel
theorem dX6_canNumber_13 : decode cX6_canNumber 13 = .ok (.istore_n 3, 1) := by decide +kernel
theorem dX6_canNumber_14 : decode cX6_canNumber 14 = .ok (.iload_n 2, 1) := by decide +kernel
theorem dX6_canNumber_15 : decode cX6_canNumber 15 = .ok (.tableswitch 105 0 6 #[41, 47, 53, 59, 65, 85, 91], 41) := by decide +kernel
theorem dX6_canNumber_56 : decode cX6_canNumber 56 = .ok (.aload_n 0, 1) := by decide +kernel
theorem dX6_canNumber_57 : decode cX6_canNumber 57 = .ok (.iload_n 1, 1) := by decide +kernel
theorem dX6_canNumber_58 : decode cX6_canNumber 58 = .ok (.invokevirtual 36, 3) := by decide +kernel
theorem dX6_canNumber_61 : decode cX6_canNumber 61 = .ok (.ireturn, 1) := by decide +kernel
theorem dX6_canNumber_62 : decode cX6_canNumber 62 = .ok (.aload_n 0, 1) := by decide +kernel
theorem dX6_canNumber_63 : decode cX6_canNumber 63 = .ok (.iload_n 1, 1) := by decide +kernel
theorem dX6_canNumber_64 : decode cX6_canNumber 64 = .ok (.invokevirtual 107, 3) := by decide +kernel
theorem dX6_canNumber_67 : decode cX6_canNumber 67 = .ok (.ireturn, 1) := by decide +kernel
theorem dX6_canNumber_68 : decode cX6_canNumber 68 = .ok (.aload_n 0, 1) := by decide +kernel
theorem dX6_canNumber_69 : decode cX6_canNumber 69 = .ok (.iload_n 1, 1) := by decide +kernel
theorem dX6_canNumber_70 : decode cX6_canNumber 70 = .ok (.invokevirtual 119, 3) := by decide +kernel
theorem dX6_canNumber_73 : decode cX6_canNumber 73 = .ok (.ireturn, 1) := by decide +kernel
theorem dX6_canNumber_74 : decode cX6_canNumber 74 = .ok (.aload_n 0, 1) := by decide +kernel
theorem dX6_canNumber_75 : decode cX6_canNumber 75 = .ok (.iload_n 1, 1) := by decide +kernel
theorem dX6_canNumber_76 : decode cX6_canNumber 76 = .ok (.invokevirtual 122, 3) := by decide +kernel
theorem dX6_canNumber_79 : decode cX6_canNumber 79 = .ok (.ireturn, 1) := by decide +kernel
theorem dX6_canNumber_80 : decode cX6_canNumber 80 = .ok (.iload_n 3, 1) := by decide +kernel
theorem dX6_canNumber_81 : decode cX6_canNumber 81 = .ok (.ifCond .eq 7, 3) := by decide +kernel
theorem dX6_canNumber_84 : decode cX6_canNumber 84 = .ok (.iconst 0, 1) := by decide +kernel
theorem dX6_canNumber_85 : decode cX6_canNumber 85 = .ok (.goto 14, 3) := by decide +kernel
theorem dX6_canNumber_88 : decode cX6_canNumber 88 = .ok (.aload_n 0, 1) := by decide +kernel
theorem dX6_canNumber_89 : decode cX6_canNumber 89 = .ok (.iload_n 1, 1) := by decide +kernel
theorem dX6_canNumber_90 : decode cX6_canNumber 90 = .ok (.invokevirtual 122, 3) := by decide +kernel
theorem dX6_canNumber_93 : decode cX6_canNumber 93 = .ok (.aload_n 0, 1) := by decide +kernel
theorem dX6_canNumber_94 : decode cX6_canNumber 94 = .ok (.iload_n 1, 1) := by decide +kernel
theorem dX6_canNumber_95 : decode cX6_canNumber 95 = .ok (.invokevirtual 119, 3) := by decide +kernel
theorem dX6_canNumber_98 : decode cX6_canNumber 98 = .ok (.isub, 1) := by decide +kernel
theorem dX6_canNumber_99 : decode cX6_canNumber 99 = .ok (.ireturn, 1) := by decide +kernel
theorem dX6_canNumber_100 : decode cX6_canNumber 100 = .ok (.aload_n 0, 1) := by decide +kernel
theorem dX6_canNumber_101 : decode cX6_canNumber 101 = .ok (.iload_n 1, 1) := by decide +kernel
theorem dX6_canNumber_102 : decode cX6_canNumber 102 = .ok (.invokevirtual 125, 3) := by decide +kernel
theorem dX6_canNumber_105 : decode cX6_canNumber 105 = .ok (.ireturn, 1) := by decide +kernel
theorem dX6_canNumber_106 : decode cX6_canNumber 106 = .ok (.aload_n 0, 1) := by decide +kernel
theorem dX6_canNumber_107 : decode cX6_canNumber 107 = .ok (.iload_n 1, 1) := by decide +kernel
theorem dX6_canNumber_108 : decode cX6_canNumber 108 = .ok (.invokevirtual 44, 3) := by decide +kernel
theorem dX6_canNumber_111 : decode cX6_canNumber 111 = .ok (.ifCond .eq 7, 3) := by decide +kernel
theorem dX6_canNumber_114 : decode cX6_canNumber 114 = .ok (.iconst 1, 1) := by decide +kernel
theorem dX6_canNumber_115 : decode cX6_canNumber 115 = .ok (.goto 4, 3) := by decide +kernel
theorem dX6_canNumber_118 : decode cX6_canNumber 118 = .ok (.iconst 0, 1) := by decide +kernel
theorem dX6_canNumber_119 : decode cX6_canNumber 119 = .ok (.ireturn, 1) := by decide +kernel
theorem dX6_canNumber_120 : decode cX6_canNumber 120 = .ok (.iload_n 3, 1) := by decide +kernel
theorem dX6_canNumber_121 : decode cX6_canNumber 121 = .ok (.ifCond .eq 7, 3) := by decide +kernel
theorem dX6_canNumber_124 : decode cX6_canNumber 124 = .ok (.iconst (-1), 1) := by decide +kernel
theorem dX6_canNumber_125 : decode cX6_canNumber 125 = .ok (.goto 9, 3) := by decide +kernel
theorem dX6_canNumber_128 : decode cX6_canNumber 128 = .ok (.aload_n 0, 1) := by decide +kernel
theorem dX6_canNumber_129 : decode cX6_canNumber 129 = .ok (.iload_n 1, 1) := by decide +kernel
theorem dX6_canNumber_130 : decode cX6_canNumber 130 = .ok (.iconst 0, 1) := by decide +kernel
theorem dX6_canNumber_131 : decode cX6_canNumber 131 = .ok (.invokevirtual 40, 3) := by decide +kernel
theorem dX6_canNumber_134 : decode cX6_canNumber 134 = .ok (.ireturn, 1) := by decide +kernel
set_option maxRecDepth 20000 in
theorem ggX6_can_X6_isCan : GoodIn wsX6_can wsX6_isCan := goodIn_r _ [5, 6, 7, 4, 8] (by decide +kernel) (by decide +kernel)
set_option maxRecDepth 20000 in
theorem gX6_can_X6_isCan : GoodIn wsX6_can (va_wsS RX6 95 yX6_isCan wsX6_isCan) := goodIn_app (goodIn_of _ (by decide +kernel)) ggX6_can_X6_isCan
set_option maxRecDepth 20000 in
theorem ggX6_can_X6_throwing : GoodIn wsX6_can wsX6_throwing := goodIn_r _ [12, 1, 46, 47, 48, 49, 50, 51, 52, 53, 54, 55, 56] (by decide +kernel) (by decide +kernel)
set_option maxRecDepth 20000 in
theorem gX6_can_X6_throwing : GoodIn wsX6_can (wsV RX6 98 RX6 yX6_throwing wsX6_throwing) := goodIn_app (goodIn_of _ (by decide +kernel)) ggX6_can_X6_throwing
set_option maxRecDepth 20000 in
theorem ggX6_can_X6_in : GoodIn wsX6_can wsX6_in := goodIn_r _ [8] (by decide +kernel) (by decide +kernel)
set_option maxRecDepth 20000 in
theorem gX6_can_X6_in : GoodIn wsX6_can (va_wsS RX6 32 yX6_in wsX6_in) := goodIn_app (goodIn_of _ (by decide +kernel)) ggX6_can_X6_in
set_option maxRecDepth 20000 in
theorem ggX6_can_X6_canNumber : GoodIn wsX6_can wsX6_canNumber := goodIn_r _ [16, 17, 18, 19, 4, 20, 21, 22, 23, 24, 25, 26, 27, 28, 29, 30, 31, 32, 33, 34, 35, 36, 37, 38, 39, 40, 41, 42, 43, 44, 45, 46, 47, 48, 49, 50, 51, 52, 53, 54, 55, 56] (by decide +kernel) (by decide +kernel)
set_option maxRecDepth 20000 in
theorem gX6_can_X6_canNumber : GoodIn wsX6_can (wsV RX6 128 RX6 yX6_canNumber wsX6_canNumber) := goodIn_app (goodIn_of _ (by decide +kernel)) ggX6_can_X6_canNumber
theorem dX6_can_0 : decode cX6_can 0 = .ok (.aload_n 0, 1) := by decide +kernel
theorem dX6_can_1 : decode cX6_can 1 = .ok (.iconst 0, 1) := by decide +kernel
theorem dX6_can_2 : decode cX6_can 2 = .ok (.putfield 25, 3) := by decide +kernel
theorem dX6_can_5 : decode cX6_can 5 = .ok (.iload_n 1, 1) := by decide +kernel
theorem dX6_can_6 : decode cX6_can 6 = .ok (.invokestatic 95, 3) := by decide +kernel
theorem dX6_can_9 : decode cX6_can 9 = .ok (.ifCond .ne 9, 3) := by decide +kernel
theorem dX6_can_12 : decode cX6_can 12 = .ok (.aload_n 0, 1) := by decide +kernel
theorem dX6_can_13 : decode cX6_can 13 = .ok (.iconst 1, 1) := by decide +kernel
theorem dX6_can_14 : decode cX6_can 14 = .ok (.invokevirtual 98, 3) := by decide +kernel
theorem dX6_can_17 : decode cX6_can 17 = .ok (.ireturn, 1) := by decide +kernel
theorem dX6_can_18 : decode cX6_can 18 = .ok (.iload_n 2, 1) := by decide +kernel
theorem dX6_can_19 : decode cX6_can 19 = .ok (.iconst 0, 1) := by decide +kernel
theorem dX6_can_20 : decode cX6_can 20 = .ok (.bipush 7, 2) := by decide +kernel
theorem dX6_can_22 : decode cX6_can 22 = .ok (.invokestatic 32, 3) := by decide +kernel
theorem dX6_can_25 : decode cX6_can 25 = .ok (.ifCond .eq 12, 3) := by decide +kernel
theorem dX6_can_28 : decode cX6_can 28 = .ok (.aload_n 0, 1) := by decide +kernel
theorem dX6_can_29 : decode cX6_can 29 = .ok (.iload_n 1, 1) := by decide +kernel
theorem dX6_can_30 : decode cX6_can 30 = .ok (.iload_n 2, 1) := by decide +kernel
theorem dX6_can_31 : decode cX6_can 31 = .ok (.invokevirtual 128, 3) := by decide +kernel
theorem dX6_can_34 : decode cX6_can 34 = .ok (.goto 8, 3) := by decide +kernel
theorem dX6_can_37 : decode cX6_can 37 = .ok (.aload_n 0, 1) := by decide +kernel
theorem dX6_can_38 : decode cX6_can 38 = .ok (.iconst 2, 1) := by decide +kernel
theorem dX6_can_39 : decode cX6_can 39 = .ok (.invokevirtual 98, 3) := by decide +kernel
theorem dX6_can_42 : decode cX6_can 42 = .ok (.ireturn, 1) := by decide +kernel
set_option maxRecDepth 20000 in
theorem ggX6_metre_X6_isCan : GoodIn wsX6_metre wsX6_isCan := goodIn_r _ [5, 6, 7, 4, 8] (by decide +kernel) (by decide +kernel)
set_option maxRecDepth 20000 in
theorem gX6_metre_X6_isCan : GoodIn wsX6_metre (va_wsS RX6 95 yX6_isCan wsX6_isCan) := goodIn_app (goodIn_of _ (by decide +kernel)) ggX6_metre_X6_isCan
set_option maxRecDepth 20000 in
theorem ggX6_metre_X6_throwing : GoodIn wsX6_metre wsX6_throwing := goodIn_r _ [12, 1, 22, 23, 24, 25, 26, 27, 28, 29, 30, 31, 32] (by decide +kernel) (by decide +kernel)
set_option maxRecDepth 20000 in
theorem gX6_metre_X6_throwing : GoodIn wsX6_metre (wsV RX6 98 RX6 yX6_throwing wsX6_throwing) := goodIn_app (goodIn_of _ (by decide +kernel)) ggX6_metre_X6_throwing
set_option maxRecDepth 20000 in
theorem ggX6_metre_X6_metres : GoodIn wsX6_metre wsX6_metres := goodIn_r _ [16, 17, 22, 23, 24, 25, 26, 27, 28, 29, 30, 31, 32] (by decide +kernel) (by decide +kernel)
set_option maxRecDepth 20000 in
theorem gX6_metre_X6_metres : GoodIn wsX6_metre (wsV RX6 36 RX6 yX6_metres wsX6_metres) := goodIn_app (goodIn_of _ (by decide +kernel)) ggX6_metre_X6_metres
set_option maxRecDepth 20000 in
theorem ggX6_metre_X6_weight : GoodIn wsX6_metre wsX6_weight := goodIn_r _ [21, 17, 22, 23, 24, 25, 26, 27, 28, 29, 30, 31, 32] (by decide +kernel) (by decide +kernel)
set_option maxRecDepth 20000 in
theorem gX6_metre_X6_weight : GoodIn wsX6_metre (wsV RX6 40 RX6 yX6_weight wsX6_weight) := goodIn_app (goodIn_of _ (by decide +kernel)) ggX6_metre_X6_weight
theorem dX6_metre_0 : decode cX6_metre 0 = .ok (.aload_n 0, 1) := by decide +kernel
theorem dX6_metre_1 : decode cX6_metre 1 = .ok (.iconst 0, 1) := by decide +kernel
theorem dX6_metre_2 : decode cX6_metre 2 = .ok (.putfield 25, 3) := by decide +kernel
theorem dX6_metre_5 : decode cX6_metre 5 = .ok (.iload_n 1, 1) := by decide +kernel
theorem dX6_metre_6 : decode cX6_metre 6 = .ok (.invokestatic 95, 3) := by decide +kernel
theorem dX6_metre_9 : decode cX6_metre 9 = .ok (.ifCond .ne 9, 3) := by decide +kernel
theorem dX6_metre_12 : decode cX6_metre 12 = .ok (.aload_n 0, 1) := by decide +kernel
theorem dX6_metre_13 : decode cX6_metre 13 = .ok (.iconst 1, 1) := by decide +kernel
theorem dX6_metre_14 : decode cX6_metre 14 = .ok (.invokevirtual 98, 3) := by decide +kernel
theorem dX6_metre_17 : decode cX6_metre 17 = .ok (.ireturn, 1) := by decide +kernel
theorem dX6_metre_18 : decode cX6_metre 18 = .ok (.iload_n 2, 1) := by decide +kernel
theorem dX6_metre_19 : decode cX6_metre 19 = .ok (.ifCond .ge 9, 3) := by decide +kernel
theorem dX6_metre_22 : decode cX6_metre 22 = .ok (.aload_n 0, 1) := by decide +kernel
theorem dX6_metre_23 : decode cX6_metre 23 = .ok (.iconst 2, 1) := by decide +kernel
theorem dX6_metre_24 : decode cX6_metre 24 = .ok (.invokevirtual 98, 3) := by decide +kernel
theorem dX6_metre_27 : decode cX6_metre 27 = .ok (.ireturn, 1) := by decide +kernel
theorem dX6_metre_28 : decode cX6_metre 28 = .ok (.iload_n 2, 1) := by decide +kernel
theorem dX6_metre_29 : decode cX6_metre 29 = .ok (.aload_n 0, 1) := by decide +kernel
theorem dX6_metre_30 : decode cX6_metre 30 = .ok (.iload_n 1, 1) := by decide +kernel
theorem dX6_metre_31 : decode cX6_metre 31 = .ok (.invokevirtual 36, 3) := by decide +kernel
theorem dX6_metre_34 : decode cX6_metre 34 = .ok (.if_icmp .ge 12, 3) := by decide +kernel
theorem dX6_metre_37 : decode cX6_metre 37 = .ok (.aload_n 0, 1) := by decide +kernel
theorem dX6_metre_38 : decode cX6_metre 38 = .ok (.iload_n 1, 1) := by decide +kernel
theorem dX6_metre_39 : decode cX6_metre 39 = .ok (.iload_n 2, 1) := by decide +kernel
theorem dX6_metre_40 : decode cX6_metre 40 = .ok (.invokevirtual 40, 3) := by decide +kernel
theorem dX6_metre_43 : decode cX6_metre 43 = .ok (.goto 4, 3) := by decide +kernel
theorem dX6_metre_46 : decode cX6_metre 46 = .ok (.iconst (-1), 1) := by decide +kernel
theorem dX6_metre_47 : decode cX6_metre 47 = .ok (.ireturn, 1) := by decide +kernel
theorem dX6_remembered_0 : decode cX6_remembered 0 = .ok (.iload_n 1, 1) := by decide +kernel
theorem dX6_remembered_1 : decode cX6_remembered 1 = .ok (.aload_n 0, 1) := by decide +kernel
theorem dX6_remembered_2 : decode cX6_remembered 2 = .ok (.getfield 7, 3) := by decide +kernel
theorem dX6_remembered_5 : decode cX6_remembered 5 = .ok (.sipush 332, 3) := by decide +kernel
theorem dX6_remembered_8 : decode cX6_remembered 8 = .ok (.iaload, 1) := by decide +kernel
theorem dX6_remembered_9 : decode cX6_remembered 9 = .ok (.if_icmp .ge 16, 3) := by decide +kernel
theorem dX6_remembered_12 : decode cX6_remembered 12 = .ok (.aload_n 0, 1) := by decide +kernel
theorem dX6_remembered_13 : decode cX6_remembered 13 = .ok (.getfield 7, 3) := by decide +kernel
theorem dX6_remembered_16 : decode cX6_remembered 16 = .ok (.sipush 333, 3) := by decide +kernel
theorem dX6_remembered_19 : decode cX6_remembered 19 = .ok (.iload_n 1, 1) := by decide +kernel
theorem dX6_remembered_20 : decode cX6_remembered 20 = .ok (.iadd, 1) := by decide +kernel
theorem dX6_remembered_21 : decode cX6_remembered 21 = .ok (.iaload, 1) := by decide +kernel
theorem dX6_remembered_22 : decode cX6_remembered 22 = .ok (.goto 4, 3) := by decide +kernel
theorem dX6_remembered_25 : decode cX6_remembered 25 = .ok (.iconst (-1), 1) := by decide +kernel
theorem dX6_remembered_26 : decode cX6_remembered 26 = .ok (.ireturn, 1) := by decide +kernel
set_option maxRecDepth 20000 in
theorem ggX6_feeler_X6_in : GoodIn wsX6_feeler wsX6_in := goodIn_r _ [5] (by decide +kernel) (by decide +kernel)
set_option maxRecDepth 20000 in
theorem gX6_feeler_X6_in : GoodIn wsX6_feeler (va_wsS RX6 32 yX6_in wsX6_in) := goodIn_app (goodIn_of _ (by decide +kernel)) ggX6_feeler_X6_in
set_option maxRecDepth 20000 in
theorem ggX6_feeler_X6_remembered : GoodIn wsX6_feeler wsX6_remembered := goodIn_r _ [9, 10, 15, 16, 17, 18, 19, 20, 21, 22, 23, 24, 25] (by decide +kernel) (by decide +kernel)
set_option maxRecDepth 20000 in
theorem gX6_feeler_X6_remembered : GoodIn wsX6_feeler (wsV RX6 131 RX6 yX6_remembered wsX6_remembered) := goodIn_app (goodIn_of _ (by decide +kernel)) ggX6_feeler_X6_remembered
set_option maxRecDepth 20000 in
theorem ggX6_feeler_X6_throwing : GoodIn wsX6_feeler wsX6_throwing := goodIn_r _ [14, 1, 15, 16, 17, 18, 19, 20, 21, 22, 23, 24, 25] (by decide +kernel) (by decide +kernel)
set_option maxRecDepth 20000 in
theorem gX6_feeler_X6_throwing : GoodIn wsX6_feeler (wsV RX6 98 RX6 yX6_throwing wsX6_throwing) := goodIn_app (goodIn_of _ (by decide +kernel)) ggX6_feeler_X6_throwing
theorem dX6_feeler_0 : decode cX6_feeler 0 = .ok (.aload_n 0, 1) := by decide +kernel
theorem dX6_feeler_1 : decode cX6_feeler 1 = .ok (.iconst 0, 1) := by decide +kernel
theorem dX6_feeler_2 : decode cX6_feeler 2 = .ok (.putfield 25, 3) := by decide +kernel
theorem dX6_feeler_5 : decode cX6_feeler 5 = .ok (.iload_n 1, 1) := by decide +kernel
theorem dX6_feeler_6 : decode cX6_feeler 6 = .ok (.iconst 0, 1) := by decide +kernel
theorem dX6_feeler_7 : decode cX6_feeler 7 = .ok (.bipush 6, 2) := by decide +kernel
theorem dX6_feeler_9 : decode cX6_feeler 9 = .ok (.invokestatic 32, 3) := by decide +kernel
theorem dX6_feeler_12 : decode cX6_feeler 12 = .ok (.ifCond .eq 11, 3) := by decide +kernel
theorem dX6_feeler_15 : decode cX6_feeler 15 = .ok (.aload_n 0, 1) := by decide +kernel
theorem dX6_feeler_16 : decode cX6_feeler 16 = .ok (.iload_n 1, 1) := by decide +kernel
theorem dX6_feeler_17 : decode cX6_feeler 17 = .ok (.invokevirtual 131, 3) := by decide +kernel
theorem dX6_feeler_20 : decode cX6_feeler 20 = .ok (.goto 8, 3) := by decide +kernel
theorem dX6_feeler_23 : decode cX6_feeler 23 = .ok (.aload_n 0, 1) := by decide +kernel
theorem dX6_feeler_24 : decode cX6_feeler 24 = .ok (.iconst 1, 1) := by decide +kernel
theorem dX6_feeler_25 : decode cX6_feeler 25 = .ok (.invokevirtual 98, 3) := by decide +kernel
theorem dX6_feeler_28 : decode cX6_feeler 28 = .ok (.ireturn, 1) := by decide +kernel
set_option maxRecDepth 20000 in
theorem ggX6_all_X6_sum : GoodIn wsX6_all wsX6_sum := goodIn_r _ [5, 6, 7, 8, 4, 9, 10, 11, 12, 13, 14, 15, 16, 17, 18, 19, 20, 21, 22, 23, 24, 25] (by decide +kernel) (by decide +kernel)
set_option maxRecDepth 20000 in
theorem gX6_all_X6_sum : GoodIn wsX6_all (wsV RX6 107 RX6 yX6_sum wsX6_sum) := goodIn_app (goodIn_of _ (by decide +kernel)) ggX6_all_X6_sum
theorem dX6_all_0 : decode cX6_all 0 = .ok (.iconst 0, 1) := by decide +kernel
theorem dX6_all_1 : decode cX6_all 1 = .ok (.istore_n 1, 1) := by decide +kernel
theorem dX6_all_2 : decode cX6_all 2 = .ok (.iconst 0, 1) := by decide +kernel
theorem dX6_all_3 : decode cX6_all 3 = .ok (.istore_n 2, 1) := by decide +kernel
theorem dX6_all_4 : decode cX6_all 4 = .ok (.iload_n 2, 1) := by decide +kernel
theorem dX6_all_5 : decode cX6_all 5 = .ok (.bipush 8, 2) := by decide +kernel
theorem dX6_all_7 : decode cX6_all 7 = .ok (.if_icmp .ge 17, 3) := by decide +kernel
theorem dX6_all_10 : decode cX6_all 10 = .ok (.iload_n 1, 1) := by decide +kernel
theorem dX6_all_11 : decode cX6_all 11 = .ok (.aload_n 0, 1) := by decide +kernel
theorem dX6_all_12 : decode cX6_all 12 = .ok (.iload_n 2, 1) := by decide +kernel
theorem dX6_all_13 : decode cX6_all 13 = .ok (.invokevirtual 107, 3) := by decide +kernel
theorem dX6_all_16 : decode cX6_all 16 = .ok (.iadd, 1) := by decide +kernel
theorem dX6_all_17 : decode cX6_all 17 = .ok (.istore_n 1, 1) := by decide +kernel
theorem dX6_all_18 : decode cX6_all 18 = .ok (.iinc 2 1, 3) := by decide +kernel
theorem dX6_all_21 : decode cX6_all 21 = .ok (.goto (-17), 3) := by decide +kernel
theorem dX6_all_24 : decode cX6_all 24 = .ok (.iload_n 1, 1) := by decide +kernel
theorem dX6_all_25 : decode cX6_all 25 = .ok (.ireturn, 1) := by decide +kernel
set_option maxRecDepth 20000 in
theorem ggX6_counted_X6_all : GoodIn wsX6_counted wsX6_all := goodIn_r _ [7, 8, 9, 10, 6, 11, 12, 13, 14, 15, 1, 16, 17, 18, 19, 20, 21, 22, 23, 24, 25, 26, 27, 28, 29, 30] (by decide +kernel) (by decide +kernel)
set_option maxRecDepth 20000 in
theorem gX6_counted_X6_all : GoodIn wsX6_counted (wsV RX6 134 RX6 yX6_all wsX6_all) := goodIn_app (goodIn_of _ (by decide +kernel)) ggX6_counted_X6_all
theorem dX6_counted_0 : decode cX6_counted 0 = .ok (.iload_n 1, 1) := by decide +kernel
theorem dX6_counted_1 : decode cX6_counted 1 = .ok (.tableswitch 126 0 10 #[59, 68, 68, 68, 68, 81, 81, 81, 94, 99, 117], 59) := by decide +kernel
theorem dX6_counted_60 : decode cX6_counted 60 = .ok (.aload_n 0, 1) := by decide +kernel
theorem dX6_counted_61 : decode cX6_counted 61 = .ok (.getfield 7, 3) := by decide +kernel
theorem dX6_counted_64 : decode cX6_counted 64 = .ok (.sipush 345, 3) := by decide +kernel
theorem dX6_counted_67 : decode cX6_counted 67 = .ok (.iaload, 1) := by decide +kernel
theorem dX6_counted_68 : decode cX6_counted 68 = .ok (.ireturn, 1) := by decide +kernel
theorem dX6_counted_69 : decode cX6_counted 69 = .ok (.aload_n 0, 1) := by decide +kernel
theorem dX6_counted_70 : decode cX6_counted 70 = .ok (.getfield 7, 3) := by decide +kernel
theorem dX6_counted_73 : decode cX6_counted 73 = .ok (.sipush 328, 3) := by decide +kernel
theorem dX6_counted_76 : decode cX6_counted 76 = .ok (.iload_n 1, 1) := by decide +kernel
theorem dX6_counted_77 : decode cX6_counted 77 = .ok (.iadd, 1) := by decide +kernel
theorem dX6_counted_78 : decode cX6_counted 78 = .ok (.iconst 1, 1) := by decide +kernel
theorem dX6_counted_79 : decode cX6_counted 79 = .ok (.isub, 1) := by decide +kernel
theorem dX6_counted_80 : decode cX6_counted 80 = .ok (.iaload, 1) := by decide +kernel
theorem dX6_counted_81 : decode cX6_counted 81 = .ok (.ireturn, 1) := by decide +kernel
theorem dX6_counted_82 : decode cX6_counted 82 = .ok (.aload_n 0, 1) := by decide +kernel
theorem dX6_counted_83 : decode cX6_counted 83 = .ok (.getfield 7, 3) := by decide +kernel
theorem dX6_counted_86 : decode cX6_counted 86 = .ok (.sipush 346, 3) := by decide +kernel
theorem dX6_counted_89 : decode cX6_counted 89 = .ok (.iload_n 1, 1) := by decide +kernel
theorem dX6_counted_90 : decode cX6_counted 90 = .ok (.iadd, 1) := by decide +kernel
theorem dX6_counted_91 : decode cX6_counted 91 = .ok (.iconst 5, 1) := by decide +kernel
theorem dX6_counted_92 : decode cX6_counted 92 = .ok (.isub, 1) := by decide +kernel
theorem dX6_counted_93 : decode cX6_counted 93 = .ok (.iaload, 1) := by decide +kernel
theorem dX6_counted_94 : decode cX6_counted 94 = .ok (.ireturn, 1) := by decide +kernel
theorem dX6_counted_95 : decode cX6_counted 95 = .ok (.aload_n 0, 1) := by decide +kernel
theorem dX6_counted_96 : decode cX6_counted 96 = .ok (.invokevirtual 134, 3) := by decide +kernel
theorem dX6_counted_99 : decode cX6_counted 99 = .ok (.ireturn, 1) := by decide +kernel
theorem dX6_counted_100 : decode cX6_counted 100 = .ok (.aload_n 0, 1) := by decide +kernel
theorem dX6_counted_101 : decode cX6_counted 101 = .ok (.getfield 7, 3) := by decide +kernel
theorem dX6_counted_104 : decode cX6_counted 104 = .ok (.sipush 348, 3) := by decide +kernel
theorem dX6_counted_107 : decode cX6_counted 107 = .ok (.iaload, 1) := by decide +kernel
theorem dX6_counted_108 : decode cX6_counted 108 = .ok (.aload_n 0, 1) := by decide +kernel
theorem dX6_counted_109 : decode cX6_counted 109 = .ok (.getfield 7, 3) := by decide +kernel
theorem dX6_counted_112 : decode cX6_counted 112 = .ok (.sipush 347, 3) := by decide +kernel
theorem dX6_counted_115 : decode cX6_counted 115 = .ok (.iaload, 1) := by decide +kernel
theorem dX6_counted_116 : decode cX6_counted 116 = .ok (.isub, 1) := by decide +kernel
theorem dX6_counted_117 : decode cX6_counted 117 = .ok (.ireturn, 1) := by decide +kernel
theorem dX6_counted_118 : decode cX6_counted 118 = .ok (.aload_n 0, 1) := by decide +kernel
theorem dX6_counted_119 : decode cX6_counted 119 = .ok (.getfield 7, 3) := by decide +kernel
theorem dX6_counted_122 : decode cX6_counted 122 = .ok (.sipush 349, 3) := by decide +kernel
theorem dX6_counted_125 : decode cX6_counted 125 = .ok (.iaload, 1) := by decide +kernel
theorem dX6_counted_126 : decode cX6_counted 126 = .ok (.ireturn, 1) := by decide +kernel
theorem dX6_counted_127 : decode cX6_counted 127 = .ok (.aload_n 0, 1) := by decide +kernel
theorem dX6_counted_128 : decode cX6_counted 128 = .ok (.getfield 29, 3) := by decide +kernel
theorem dX6_counted_131 : decode cX6_counted 131 = .ok (.ireturn, 1) := by decide +kernel
set_option maxRecDepth 20000 in
theorem ggX6_count_X6_in : GoodIn wsX6_count wsX6_in := goodIn_r _ [5] (by decide +kernel) (by decide +kernel)
set_option maxRecDepth 20000 in
theorem gX6_count_X6_in : GoodIn wsX6_count (va_wsS RX6 32 yX6_in wsX6_in) := goodIn_app (goodIn_of _ (by decide +kernel)) ggX6_count_X6_in
set_option maxRecDepth 20000 in
theorem ggX6_count_X6_counted : GoodIn wsX6_count wsX6_counted := goodIn_r _ [9, 10, 11, 12, 13, 14, 4, 15, 16, 17, 18, 19, 20, 21, 22, 23, 24, 25, 26, 27, 32, 33, 34, 35, 36, 37, 38, 39, 40, 41, 42] (by decide +kernel) (by decide +kernel)
set_option maxRecDepth 20000 in
theorem gX6_count_X6_counted : GoodIn wsX6_count (wsV RX6 137 RX6 yX6_counted wsX6_counted) := goodIn_app (goodIn_of _ (by decide +kernel)) ggX6_count_X6_counted
set_option maxRecDepth 20000 in
theorem ggX6_count_X6_throwing : GoodIn wsX6_count wsX6_throwing := goodIn_r _ [31, 1, 32, 33, 34, 35, 36, 37, 38, 39, 40, 41, 42] (by decide +kernel) (by decide +kernel)
set_option maxRecDepth 20000 in
theorem gX6_count_X6_throwing : GoodIn wsX6_count (wsV RX6 98 RX6 yX6_throwing wsX6_throwing) := goodIn_app (goodIn_of _ (by decide +kernel)) ggX6_count_X6_throwing
theorem dX6_count_0 : decode cX6_count 0 = .ok (.aload_n 0, 1) := by decide +kernel
theorem dX6_count_1 : decode cX6_count 1 = .ok (.iconst 0, 1) := by decide +kernel
theorem dX6_count_2 : decode cX6_count 2 = .ok (.putfield 25, 3) := by decide +kernel
theorem dX6_count_5 : decode cX6_count 5 = .ok (.iload_n 1, 1) := by decide +kernel
theorem dX6_count_6 : decode cX6_count 6 = .ok (.iconst 0, 1) := by decide +kernel
theorem dX6_count_7 : decode cX6_count 7 = .ok (.bipush 11, 2) := by decide +kernel
theorem dX6_count_9 : decode cX6_count 9 = .ok (.invokestatic 32, 3) := by decide +kernel
theorem dX6_count_12 : decode cX6_count 12 = .ok (.ifCond .eq 11, 3) := by decide +kernel
theorem dX6_count_15 : decode cX6_count 15 = .ok (.aload_n 0, 1) := by decide +kernel
theorem dX6_count_16 : decode cX6_count 16 = .ok (.iload_n 1, 1) := by decide +kernel
theorem dX6_count_17 : decode cX6_count 17 = .ok (.invokevirtual 137, 3) := by decide +kernel
theorem dX6_count_20 : decode cX6_count 20 = .ok (.goto 8, 3) := by decide +kernel
theorem dX6_count_23 : decode cX6_count 23 = .ok (.aload_n 0, 1) := by decide +kernel
theorem dX6_count_24 : decode cX6_count 24 = .ok (.iconst 1, 1) := by decide +kernel
theorem dX6_count_25 : decode cX6_count 25 = .ok (.invokevirtual 98, 3) := by decide +kernel
theorem dX6_count_28 : decode cX6_count 28 = .ok (.ireturn, 1) := by decide +kernel
set_option maxRecDepth 20000 in
theorem ggX6_setting_X6_in : GoodIn wsX6_setting wsX6_in := goodIn_r _ [6] (by decide +kernel) (by decide +kernel)
set_option maxRecDepth 20000 in
theorem gX6_setting_X6_in : GoodIn wsX6_setting (va_wsS RX6 32 yX6_in wsX6_in) := goodIn_app (goodIn_of _ (by decide +kernel)) ggX6_setting_X6_in
set_option maxRecDepth 20000 in
theorem ggX6_setting_X6_throwing : GoodIn wsX6_setting wsX6_throwing := goodIn_r _ [10, 1, 11, 12, 13, 14, 15, 16, 17, 18, 19, 20, 21] (by decide +kernel) (by decide +kernel)
set_option maxRecDepth 20000 in
theorem gX6_setting_X6_throwing : GoodIn wsX6_setting (wsV RX6 98 RX6 yX6_throwing wsX6_throwing) := goodIn_app (goodIn_of _ (by decide +kernel)) ggX6_setting_X6_throwing
theorem dX6_setting_0 : decode cX6_setting 0 = .ok (.aload_n 0, 1) := by decide +kernel
theorem dX6_setting_1 : decode cX6_setting 1 = .ok (.iconst 0, 1) := by decide +kernel
theorem dX6_setting_2 : decode cX6_setting 2 = .ok (.putfield 25, 3) := by decide +kernel
theorem dX6_setting_5 : decode cX6_setting 5 = .ok (.iload_n 1, 1) := by decide +kernel
theorem dX6_setting_6 : decode cX6_setting 6 = .ok (.iconst 0, 1) := by decide +kernel
theorem dX6_setting_7 : decode cX6_setting 7 = .ok (.iconst 4, 1) := by decide +kernel
theorem dX6_setting_8 : decode cX6_setting 8 = .ok (.invokestatic 32, 3) := by decide +kernel
theorem dX6_setting_11 : decode cX6_setting 11 = .ok (.ifCond .eq 16, 3) := by decide +kernel
theorem dX6_setting_14 : decode cX6_setting 14 = .ok (.aload_n 0, 1) := by decide +kernel
theorem dX6_setting_15 : decode cX6_setting 15 = .ok (.getfield 7, 3) := by decide +kernel
theorem dX6_setting_18 : decode cX6_setting 18 = .ok (.sipush 340, 3) := by decide +kernel
theorem dX6_setting_21 : decode cX6_setting 21 = .ok (.iload_n 1, 1) := by decide +kernel
theorem dX6_setting_22 : decode cX6_setting 22 = .ok (.iadd, 1) := by decide +kernel
theorem dX6_setting_23 : decode cX6_setting 23 = .ok (.iaload, 1) := by decide +kernel
theorem dX6_setting_24 : decode cX6_setting 24 = .ok (.goto 8, 3) := by decide +kernel
theorem dX6_setting_27 : decode cX6_setting 27 = .ok (.aload_n 0, 1) := by decide +kernel
theorem dX6_setting_28 : decode cX6_setting 28 = .ok (.iconst 1, 1) := by decide +kernel
theorem dX6_setting_29 : decode cX6_setting 29 = .ok (.invokevirtual 98, 3) := by decide +kernel
theorem dX6_setting_32 : decode cX6_setting 32 = .ok (.ireturn, 1) := by decide +kernel
set_option maxRecDepth 20000 in
theorem ggX6_why_X6_reason : GoodIn wsX6_why wsX6_reason := goodIn_r _ [6, 7, 8, 9, 10, 5, 11, 12, 13, 14, 15, 16, 17, 18, 19, 20, 21, 22, 23, 24, 25, 26, 27, 28, 29, 30, 31, 32, 33, 34, 35, 36, 37, 38, 39, 40, 41, 42] (by decide +kernel) (by decide +kernel)
set_option maxRecDepth 20000 in
theorem gX6_why_X6_reason : GoodIn wsX6_why (wsV RX6 66 RX6 yX6_reason wsX6_reason) := goodIn_app (goodIn_of _ (by decide +kernel)) ggX6_why_X6_reason
theorem dX6_why_0 : decode cX6_why 0 = .ok (.aload_n 0, 1) := by decide +kernel
theorem dX6_why_1 : decode cX6_why 1 = .ok (.iconst 0, 1) := by decide +kernel
theorem dX6_why_2 : decode cX6_why 2 = .ok (.putfield 25, 3) := by decide +kernel
theorem dX6_why_5 : decode cX6_why 5 = .ok (.aload_n 0, 1) := by decide +kernel
theorem dX6_why_6 : decode cX6_why 6 = .ok (.invokevirtual 66, 3) := by decide +kernel
theorem dX6_why_9 : decode cX6_why 9 = .ok (.ireturn, 1) := by decide +kernel
set_option maxRecDepth 20000 in
theorem ggX6_tried_X6_putAside : GoodIn wsX6_tried wsX6_putAside := goodIn_r _ [7, 2, 1, 76, 77, 78, 79, 80, 81, 82, 83, 84, 85, 86] (by decide +kernel) (by decide +kernel)
set_option maxRecDepth 20000 in
theorem gX6_tried_X6_putAside : GoodIn wsX6_tried (wsV RX6 140 RX6 yX6_putAside wsX6_putAside) := goodIn_app (goodIn_of _ (by decide +kernel)) ggX6_tried_X6_putAside
set_option maxRecDepth 20000 in
theorem ggX6_tried_X6_runs : GoodIn wsX6_tried wsX6_runs := goodIn_r _ [11, 12, 13, 14, 6, 15, 1, 16, 17, 18, 19, 20, 21, 22, 23, 24, 25, 26, 27, 28, 29, 30, 31, 32, 33, 34, 35, 36, 37, 38, 39, 40, 41, 42, 43, 44, 45, 46, 47, 48, 49, 50, 51, 76, 77, 78, 79, 80, 81, 82, 83, 84, 85, 86] (by decide +kernel) (by decide +kernel)
set_option maxRecDepth 20000 in
theorem gX6_tried_X6_runs : GoodIn wsX6_tried (wsV RX6 113 RX6 yX6_runs wsX6_runs) := goodIn_app (goodIn_of _ (by decide +kernel)) ggX6_tried_X6_runs
set_option maxRecDepth 20000 in
theorem ggX6_tried_X6_canNumber : GoodIn wsX6_tried wsX6_canNumber := goodIn_r _ [55, 20, 21, 22, 6, 23, 1, 56, 57, 58, 59, 28, 29, 30, 31, 60, 61, 62, 63, 64, 65, 66, 67, 68, 69, 70, 71, 16, 17, 18, 19, 76, 77, 78, 79, 80, 81, 82, 83, 84, 85, 86] (by decide +kernel) (by decide +kernel)
set_option maxRecDepth 20000 in
theorem gX6_tried_X6_canNumber : GoodIn wsX6_tried (wsV RX6 128 RX6 yX6_canNumber wsX6_canNumber) := goodIn_app (goodIn_of _ (by decide +kernel)) ggX6_tried_X6_canNumber
set_option maxRecDepth 20000 in
theorem ggX6_tried_X6_steps : GoodIn wsX6_tried wsX6_steps := goodIn_r _ [71, 20, 21, 22, 6, 23, 1, 28, 29, 30, 31, 76, 77, 78, 79, 80, 81, 82, 83, 84, 85, 86] (by decide +kernel) (by decide +kernel)
set_option maxRecDepth 20000 in
theorem gX6_tried_X6_steps : GoodIn wsX6_tried (wsV RX6 125 RX6 yX6_steps wsX6_steps) := goodIn_app (goodIn_of _ (by decide +kernel)) ggX6_tried_X6_steps
set_option maxRecDepth 20000 in
theorem ggX6_tried_X6_reason : GoodIn wsX6_tried wsX6_reason := goodIn_r _ [15, 1, 16, 17, 18, 6, 19, 20, 21, 22, 23, 24, 25, 26, 27, 28, 29, 30, 31, 32, 33, 34, 35, 36, 37, 38, 39, 76, 77, 78, 79, 80, 81, 82, 83, 84, 85, 86] (by decide +kernel) (by decide +kernel)
set_option maxRecDepth 20000 in
theorem gX6_tried_X6_reason : GoodIn wsX6_tried (wsV RX6 66 RX6 yX6_reason wsX6_reason) := goodIn_app (goodIn_of _ (by decide +kernel)) ggX6_tried_X6_reason
set_option maxRecDepth 20000 in
theorem ggX6_tried_X6_putBack : GoodIn wsX6_tried wsX6_putBack := goodIn_r _ [75, 1, 2, 76, 77, 78, 79, 80, 81, 82, 83, 84, 85, 86] (by decide +kernel) (by decide +kernel)
set_option maxRecDepth 20000 in
theorem gX6_tried_X6_putBack : GoodIn wsX6_tried (wsV RX6 143 RX6 yX6_putBack wsX6_putBack) := goodIn_app (goodIn_of _ (by decide +kernel)) ggX6_tried_X6_putBack
theorem dX6_tried_0 : decode cX6_tried 0 = .ok (.aload_n 0, 1) := by decide +kernel
theorem dX6_tried_1 : decode cX6_tried 1 = .ok (.invokevirtual 140, 3) := by decide +kernel
theorem dX6_tried_4 : decode cX6_tried 4 = .ok (.aload_n 0, 1) := by decide +kernel
theorem dX6_tried_5 : decode cX6_tried 5 = .ok (.iload_n 1, 1) := by decide +kernel
theorem dX6_tried_6 : decode cX6_tried 6 = .ok (.invokevirtual 113, 3) := by decide +kernel
theorem dX6_tried_9 : decode cX6_tried 9 = .ok (.istore_n 3, 1) := by decide +kernel
theorem dX6_tried_10 : decode cX6_tried 10 = .ok (.aload_n 0, 1) := by decide +kernel
theorem dX6_tried_11 : decode cX6_tried 11 = .ok (.getfield 7, 3) := by decide +kernel
theorem dX6_tried_14 : decode cX6_tried 14 = .ok (.sipush 347, 3) := by decide +kernel
theorem dX6_tried_17 : decode cX6_tried 17 = .ok (.iaload, 1) := by decide +kernel
theorem dX6_tried_18 : decode cX6_tried 18 = .ok (.aload_n 0, 1) := by decide +kernel
theorem dX6_tried_19 : decode cX6_tried 19 = .ok (.getfield 13, 3) := by decide +kernel
theorem dX6_tried_22 : decode cX6_tried 22 = .ok (.sipush 347, 3) := by decide +kernel
theorem dX6_tried_25 : decode cX6_tried 25 = .ok (.iaload, 1) := by decide +kernel
theorem dX6_tried_26 : decode cX6_tried 26 = .ok (.isub, 1) := by decide +kernel
theorem dX6_tried_27 : decode cX6_tried 27 = .ok (.istore 4, 2) := by decide +kernel
theorem dX6_tried_29 : decode cX6_tried 29 = .ok (.iload_n 2, 1) := by decide +kernel
theorem dX6_tried_30 : decode cX6_tried 30 = .ok (.ifCond .ne 7, 3) := by decide +kernel
theorem dX6_tried_33 : decode cX6_tried 33 = .ok (.iload_n 3, 1) := by decide +kernel
theorem dX6_tried_34 : decode cX6_tried 34 = .ok (.goto 58, 3) := by decide +kernel
theorem dX6_tried_37 : decode cX6_tried 37 = .ok (.iload_n 2, 1) := by decide +kernel
theorem dX6_tried_38 : decode cX6_tried 38 = .ok (.iconst 1, 1) := by decide +kernel
theorem dX6_tried_39 : decode cX6_tried 39 = .ok (.if_icmp .ne 19, 3) := by decide +kernel
theorem dX6_tried_42 : decode cX6_tried 42 = .ok (.aload_n 0, 1) := by decide +kernel
theorem dX6_tried_43 : decode cX6_tried 43 = .ok (.aload_n 0, 1) := by decide +kernel
theorem dX6_tried_44 : decode cX6_tried 44 = .ok (.getfield 7, 3) := by decide +kernel
theorem dX6_tried_47 : decode cX6_tried 47 = .ok (.sipush 329, 3) := by decide +kernel
theorem dX6_tried_50 : decode cX6_tried 50 = .ok (.iaload, 1) := by decide +kernel
theorem dX6_tried_51 : decode cX6_tried 51 = .ok (.iconst 4, 1) := by decide +kernel
theorem dX6_tried_52 : decode cX6_tried 52 = .ok (.invokevirtual 128, 3) := by decide +kernel
theorem dX6_tried_55 : decode cX6_tried 55 = .ok (.goto 37, 3) := by decide +kernel
theorem dX6_tried_58 : decode cX6_tried 58 = .ok (.iload_n 2, 1) := by decide +kernel
theorem dX6_tried_59 : decode cX6_tried 59 = .ok (.iconst 2, 1) := by decide +kernel
theorem dX6_tried_60 : decode cX6_tried 60 = .ok (.if_icmp .ne 18, 3) := by decide +kernel
theorem dX6_tried_63 : decode cX6_tried 63 = .ok (.aload_n 0, 1) := by decide +kernel
theorem dX6_tried_64 : decode cX6_tried 64 = .ok (.aload_n 0, 1) := by decide +kernel
theorem dX6_tried_65 : decode cX6_tried 65 = .ok (.getfield 7, 3) := by decide +kernel
theorem dX6_tried_68 : decode cX6_tried 68 = .ok (.sipush 329, 3) := by decide +kernel
theorem dX6_tried_71 : decode cX6_tried 71 = .ok (.iaload, 1) := by decide +kernel
theorem dX6_tried_72 : decode cX6_tried 72 = .ok (.invokevirtual 125, 3) := by decide +kernel
theorem dX6_tried_75 : decode cX6_tried 75 = .ok (.goto 17, 3) := by decide +kernel
theorem dX6_tried_78 : decode cX6_tried 78 = .ok (.iload_n 2, 1) := by decide +kernel
theorem dX6_tried_79 : decode cX6_tried 79 = .ok (.iconst 3, 1) := by decide +kernel
theorem dX6_tried_80 : decode cX6_tried 80 = .ok (.if_icmp .ne 8, 3) := by decide +kernel
theorem dX6_tried_83 : decode cX6_tried 83 = .ok (.iload 4, 2) := by decide +kernel
theorem dX6_tried_85 : decode cX6_tried 85 = .ok (.goto 7, 3) := by decide +kernel
theorem dX6_tried_88 : decode cX6_tried 88 = .ok (.aload_n 0, 1) := by decide +kernel
theorem dX6_tried_89 : decode cX6_tried 89 = .ok (.invokevirtual 66, 3) := by decide +kernel
theorem dX6_tried_92 : decode cX6_tried 92 = .ok (.istore 5, 2) := by decide +kernel
theorem dX6_tried_94 : decode cX6_tried 94 = .ok (.aload_n 0, 1) := by decide +kernel
theorem dX6_tried_95 : decode cX6_tried 95 = .ok (.invokevirtual 143, 3) := by decide +kernel
theorem dX6_tried_98 : decode cX6_tried 98 = .ok (.iload 5, 2) := by decide +kernel
theorem dX6_tried_100 : decode cX6_tried 100 = .ok (.ireturn, 1) := by decide +kernel
set_option maxRecDepth 20000 in
theorem ggX6_ifRun_X6_in : GoodIn wsX6_ifRun wsX6_in := goodIn_r _ [5] (by decide +kernel) (by decide +kernel)
set_option maxRecDepth 20000 in
theorem gX6_ifRun_X6_in : GoodIn wsX6_ifRun (va_wsS RX6 32 yX6_in wsX6_in) := goodIn_app (goodIn_of _ (by decide +kernel)) ggX6_ifRun_X6_in
set_option maxRecDepth 20000 in
theorem ggX6_ifRun_X6_tried : GoodIn wsX6_ifRun wsX6_tried := goodIn_r _ [9, 10, 11, 12, 13, 14, 4, 15, 16, 17, 18, 19, 20, 21, 22, 23, 24, 25, 26, 27, 28, 29, 30, 31, 32, 33, 34, 35, 36, 37, 38, 39, 40, 41, 42, 43, 44, 45, 46, 47, 48, 49, 50, 51, 52, 53, 54, 55, 56, 57, 58, 59, 60, 61, 62, 63, 64, 65, 66, 67, 68, 69, 70, 71, 72, 73, 74, 75, 76, 77, 78, 79, 80, 81, 82, 83, 88, 89, 90, 91, 92, 93, 94, 95, 96, 97, 98] (by decide +kernel) (by decide +kernel)
set_option maxRecDepth 20000 in
theorem gX6_ifRun_X6_tried : GoodIn wsX6_ifRun (wsV RX6 146 RX6 yX6_tried wsX6_tried) := goodIn_app (goodIn_of _ (by decide +kernel)) ggX6_ifRun_X6_tried
set_option maxRecDepth 20000 in
theorem ggX6_ifRun_X6_throwing : GoodIn wsX6_ifRun wsX6_throwing := goodIn_r _ [87, 1, 88, 89, 90, 91, 92, 93, 94, 95, 96, 97, 98] (by decide +kernel) (by decide +kernel)
set_option maxRecDepth 20000 in
theorem gX6_ifRun_X6_throwing : GoodIn wsX6_ifRun (wsV RX6 98 RX6 yX6_throwing wsX6_throwing) := goodIn_app (goodIn_of _ (by decide +kernel)) ggX6_ifRun_X6_throwing
theorem dX6_ifRun_0 : decode cX6_ifRun 0 = .ok (.aload_n 0, 1) := by decide +kernel
theorem dX6_ifRun_1 : decode cX6_ifRun 1 = .ok (.iconst 0, 1) := by decide +kernel
theorem dX6_ifRun_2 : decode cX6_ifRun 2 = .ok (.putfield 25, 3) := by decide +kernel
theorem dX6_ifRun_5 : decode cX6_ifRun 5 = .ok (.iload_n 1, 1) := by decide +kernel
theorem dX6_ifRun_6 : decode cX6_ifRun 6 = .ok (.iconst 1, 1) := by decide +kernel
theorem dX6_ifRun_7 : decode cX6_ifRun 7 = .ok (.bipush 40, 2) := by decide +kernel
theorem dX6_ifRun_9 : decode cX6_ifRun 9 = .ok (.invokestatic 32, 3) := by decide +kernel
theorem dX6_ifRun_12 : decode cX6_ifRun 12 = .ok (.ifCond .eq 21, 3) := by decide +kernel
theorem dX6_ifRun_15 : decode cX6_ifRun 15 = .ok (.iload_n 2, 1) := by decide +kernel
theorem dX6_ifRun_16 : decode cX6_ifRun 16 = .ok (.iconst 0, 1) := by decide +kernel
theorem dX6_ifRun_17 : decode cX6_ifRun 17 = .ok (.iconst 4, 1) := by decide +kernel
theorem dX6_ifRun_18 : decode cX6_ifRun 18 = .ok (.invokestatic 32, 3) := by decide +kernel
theorem dX6_ifRun_21 : decode cX6_ifRun 21 = .ok (.ifCond .eq 12, 3) := by decide +kernel
theorem dX6_ifRun_24 : decode cX6_ifRun 24 = .ok (.aload_n 0, 1) := by decide +kernel
theorem dX6_ifRun_25 : decode cX6_ifRun 25 = .ok (.iload_n 1, 1) := by decide +kernel
theorem dX6_ifRun_26 : decode cX6_ifRun 26 = .ok (.iload_n 2, 1) := by decide +kernel
theorem dX6_ifRun_27 : decode cX6_ifRun 27 = .ok (.invokevirtual 146, 3) := by decide +kernel
theorem dX6_ifRun_30 : decode cX6_ifRun 30 = .ok (.goto 8, 3) := by decide +kernel
theorem dX6_ifRun_33 : decode cX6_ifRun 33 = .ok (.aload_n 0, 1) := by decide +kernel
theorem dX6_ifRun_34 : decode cX6_ifRun 34 = .ok (.iconst 1, 1) := by decide +kernel
theorem dX6_ifRun_35 : decode cX6_ifRun 35 = .ok (.invokevirtual 98, 3) := by decide +kernel
theorem dX6_ifRun_38 : decode cX6_ifRun 38 = .ok (.ireturn, 1) := by decide +kernel
set_option maxRecDepth 20000 in
theorem ggX6_lagFor_X6_tried : GoodIn wsX6_lagFor wsX6_tried := goodIn_r _ [6, 1, 7, 8, 9, 10, 5, 11, 12, 13, 14, 15, 16, 17, 18, 19, 20, 21, 22, 23, 24, 25, 26, 27, 28, 29, 30, 31, 32, 33, 34, 35, 36, 37, 38, 39, 40, 41, 42, 43, 44, 45, 46, 47, 48, 49, 50, 51, 52, 53, 54, 55, 56, 57, 58, 59, 60, 61, 62, 63, 64, 65, 66, 67, 68, 69, 70, 71, 72, 73, 74, 75, 76, 77, 78, 79, 80, 81, 82, 83, 84, 85, 86, 87, 88, 89, 90] (by decide +kernel) (by decide +kernel)
set_option maxRecDepth 20000 in
theorem gX6_lagFor_X6_tried : GoodIn wsX6_lagFor (wsV RX6 146 RX6 yX6_tried wsX6_tried) := goodIn_app (goodIn_of _ (by decide +kernel)) ggX6_lagFor_X6_tried
theorem dX6_lagFor_0 : decode cX6_lagFor 0 = .ok (.aload_n 0, 1) := by decide +kernel
theorem dX6_lagFor_1 : decode cX6_lagFor 1 = .ok (.getfield 7, 3) := by decide +kernel
theorem dX6_lagFor_4 : decode cX6_lagFor 4 = .ok (.sipush 340, 3) := by decide +kernel
theorem dX6_lagFor_7 : decode cX6_lagFor 7 = .ok (.iaload, 1) := by decide +kernel
theorem dX6_lagFor_8 : decode cX6_lagFor 8 = .ok (.istore_n 2, 1) := by decide +kernel
theorem dX6_lagFor_9 : decode cX6_lagFor 9 = .ok (.iconst 0, 1) := by decide +kernel
theorem dX6_lagFor_10 : decode cX6_lagFor 10 = .ok (.istore_n 3, 1) := by decide +kernel
theorem dX6_lagFor_11 : decode cX6_lagFor 11 = .ok (.iconst 0, 1) := by decide +kernel
theorem dX6_lagFor_12 : decode cX6_lagFor 12 = .ok (.istore 4, 2) := by decide +kernel
theorem dX6_lagFor_14 : decode cX6_lagFor 14 = .ok (.iconst 0, 1) := by decide +kernel
theorem dX6_lagFor_15 : decode cX6_lagFor 15 = .ok (.istore 5, 2) := by decide +kernel
theorem dX6_lagFor_17 : decode cX6_lagFor 17 = .ok (.iload 5, 2) := by decide +kernel
theorem dX6_lagFor_19 : decode cX6_lagFor 19 = .ok (.bipush 6, 2) := by decide +kernel
theorem dX6_lagFor_21 : decode cX6_lagFor 21 = .ok (.if_icmp .gt 61, 3) := by decide +kernel
theorem dX6_lagFor_24 : decode cX6_lagFor 24 = .ok (.aload_n 0, 1) := by decide +kernel
theorem dX6_lagFor_25 : decode cX6_lagFor 25 = .ok (.getfield 7, 3) := by decide +kernel
theorem dX6_lagFor_28 : decode cX6_lagFor 28 = .ok (.sipush 340, 3) := by decide +kernel
theorem dX6_lagFor_31 : decode cX6_lagFor 31 = .ok (.iload 5, 2) := by decide +kernel
theorem dX6_lagFor_33 : decode cX6_lagFor 33 = .ok (.iastore, 1) := by decide +kernel
theorem dX6_lagFor_34 : decode cX6_lagFor 34 = .ok (.aload_n 0, 1) := by decide +kernel
theorem dX6_lagFor_35 : decode cX6_lagFor 35 = .ok (.iload_n 1, 1) := by decide +kernel
theorem dX6_lagFor_36 : decode cX6_lagFor 36 = .ok (.iconst 2, 1) := by decide +kernel
theorem dX6_lagFor_37 : decode cX6_lagFor 37 = .ok (.invokevirtual 146, 3) := by decide +kernel
theorem dX6_lagFor_40 : decode cX6_lagFor 40 = .ok (.istore 6, 2) := by decide +kernel
theorem dX6_lagFor_42 : decode cX6_lagFor 42 = .ok (.iload 5, 2) := by decide +kernel
theorem dX6_lagFor_44 : decode cX6_lagFor 44 = .ok (.ifCond .eq 10, 3) := by decide +kernel
theorem dX6_lagFor_47 : decode cX6_lagFor 47 = .ok (.iload 6, 2) := by decide +kernel
theorem dX6_lagFor_49 : decode cX6_lagFor 49 = .ok (.iload 4, 2) := by decide +kernel
theorem dX6_lagFor_51 : decode cX6_lagFor 51 = .ok (.if_icmp .ge 8, 3) := by decide +kernel
theorem dX6_lagFor_54 : decode cX6_lagFor 54 = .ok (.iload 5, 2) := by decide +kernel
theorem dX6_lagFor_56 : decode cX6_lagFor 56 = .ok (.goto 4, 3) := by decide +kernel
theorem dX6_lagFor_59 : decode cX6_lagFor 59 = .ok (.iload_n 3, 1) := by decide +kernel
theorem dX6_lagFor_60 : decode cX6_lagFor 60 = .ok (.istore_n 3, 1) := by decide +kernel
theorem dX6_lagFor_61 : decode cX6_lagFor 61 = .ok (.iload_n 3, 1) := by decide +kernel
theorem dX6_lagFor_62 : decode cX6_lagFor 62 = .ok (.iload 5, 2) := by decide +kernel
theorem dX6_lagFor_64 : decode cX6_lagFor 64 = .ok (.if_icmp .ne 8, 3) := by decide +kernel
theorem dX6_lagFor_67 : decode cX6_lagFor 67 = .ok (.iload 6, 2) := by decide +kernel
theorem dX6_lagFor_69 : decode cX6_lagFor 69 = .ok (.goto 5, 3) := by decide +kernel
theorem dX6_lagFor_72 : decode cX6_lagFor 72 = .ok (.iload 4, 2) := by decide +kernel
theorem dX6_lagFor_74 : decode cX6_lagFor 74 = .ok (.istore 4, 2) := by decide +kernel
theorem dX6_lagFor_76 : decode cX6_lagFor 76 = .ok (.iinc 5 1, 3) := by decide +kernel
theorem dX6_lagFor_79 : decode cX6_lagFor 79 = .ok (.goto (-62), 3) := by decide +kernel
theorem dX6_lagFor_82 : decode cX6_lagFor 82 = .ok (.aload_n 0, 1) := by decide +kernel
theorem dX6_lagFor_83 : decode cX6_lagFor 83 = .ok (.getfield 7, 3) := by decide +kernel
theorem dX6_lagFor_86 : decode cX6_lagFor 86 = .ok (.sipush 340, 3) := by decide +kernel
theorem dX6_lagFor_89 : decode cX6_lagFor 89 = .ok (.iload_n 2, 1) := by decide +kernel
theorem dX6_lagFor_90 : decode cX6_lagFor 90 = .ok (.iastore, 1) := by decide +kernel
theorem dX6_lagFor_91 : decode cX6_lagFor 91 = .ok (.iload_n 3, 1) := by decide +kernel
theorem dX6_lagFor_92 : decode cX6_lagFor 92 = .ok (.ireturn, 1) := by decide +kernel
set_option maxRecDepth 20000 in
theorem ggX6_bestLag_X6_in : GoodIn wsX6_bestLag wsX6_in := goodIn_r _ [5] (by decide +kernel) (by decide +kernel)
set_option maxRecDepth 20000 in
theorem gX6_bestLag_X6_in : GoodIn wsX6_bestLag (va_wsS RX6 32 yX6_in wsX6_in) := goodIn_app (goodIn_of _ (by decide +kernel)) ggX6_bestLag_X6_in
set_option maxRecDepth 20000 in
theorem ggX6_bestLag_X6_lagFor : GoodIn wsX6_bestLag wsX6_lagFor := goodIn_r _ [9, 10, 11, 12, 13, 4, 14, 15, 16, 17, 18, 19, 20, 21, 22, 23, 24, 25, 26, 27, 28, 29, 30, 31, 32, 33, 34, 35, 36, 37, 38, 39, 40, 41, 42, 43, 44, 45, 46, 47, 48, 49, 50, 51, 52, 53, 54, 55, 56, 57, 58, 59, 60, 61, 62, 63, 64, 65, 66, 67, 68, 69, 70, 71, 72, 73, 74, 75, 76, 77, 78, 79, 80, 81, 82, 83, 84, 85, 86, 87, 92, 93, 94, 95, 96, 97, 98, 99, 100, 101, 102] (by decide +kernel) (by decide +kernel)
set_option maxRecDepth 20000 in
theorem gX6_bestLag_X6_lagFor : GoodIn wsX6_bestLag (wsV RX6 149 RX6 yX6_lagFor wsX6_lagFor) := goodIn_app (goodIn_of _ (by decide +kernel)) ggX6_bestLag_X6_lagFor
set_option maxRecDepth 20000 in
theorem ggX6_bestLag_X6_throwing : GoodIn wsX6_bestLag wsX6_throwing := goodIn_r _ [91, 1, 92, 93, 94, 95, 96, 97, 98, 99, 100, 101, 102] (by decide +kernel) (by decide +kernel)
set_option maxRecDepth 20000 in
theorem gX6_bestLag_X6_throwing : GoodIn wsX6_bestLag (wsV RX6 98 RX6 yX6_throwing wsX6_throwing) := goodIn_app (goodIn_of _ (by decide +kernel)) ggX6_bestLag_X6_throwing
theorem dX6_bestLag_0 : decode cX6_bestLag 0 = .ok (.aload_n 0, 1) := by decide +kernel
theorem dX6_bestLag_1 : decode cX6_bestLag 1 = .ok (.iconst 0, 1) := by decide +kernel
theorem dX6_bestLag_2 : decode cX6_bestLag 2 = .ok (.putfield 25, 3) := by decide +kernel
theorem dX6_bestLag_5 : decode cX6_bestLag 5 = .ok (.iload_n 1, 1) := by decide +kernel
theorem dX6_bestLag_6 : decode cX6_bestLag 6 = .ok (.iconst 1, 1) := by decide +kernel
theorem dX6_bestLag_7 : decode cX6_bestLag 7 = .ok (.bipush 40, 2) := by decide +kernel
theorem dX6_bestLag_9 : decode cX6_bestLag 9 = .ok (.invokestatic 32, 3) := by decide +kernel
theorem dX6_bestLag_12 : decode cX6_bestLag 12 = .ok (.ifCond .eq 11, 3) := by decide +kernel
theorem dX6_bestLag_15 : decode cX6_bestLag 15 = .ok (.aload_n 0, 1) := by decide +kernel
theorem dX6_bestLag_16 : decode cX6_bestLag 16 = .ok (.iload_n 1, 1) := by decide +kernel
theorem dX6_bestLag_17 : decode cX6_bestLag 17 = .ok (.invokevirtual 149, 3) := by decide +kernel
theorem dX6_bestLag_20 : decode cX6_bestLag 20 = .ok (.goto 8, 3) := by decide +kernel
theorem dX6_bestLag_23 : decode cX6_bestLag 23 = .ok (.aload_n 0, 1) := by decide +kernel
theorem dX6_bestLag_24 : decode cX6_bestLag 24 = .ok (.iconst 1, 1) := by decide +kernel
theorem dX6_bestLag_25 : decode cX6_bestLag 25 = .ok (.invokevirtual 98, 3) := by decide +kernel
theorem dX6_bestLag_28 : decode cX6_bestLag 28 = .ok (.ireturn, 1) := by decide +kernel
set_option maxRecDepth 20000 in
theorem ggX6_apart_X6_metres : GoodIn wsX6_apart wsX6_metres := goodIn_r _ [6, 1, 11, 12, 13, 14, 15, 16, 17, 18, 19, 20, 21] (by decide +kernel) (by decide +kernel)
set_option maxRecDepth 20000 in
theorem gX6_apart_X6_metres : GoodIn wsX6_apart (wsV RX6 36 RX6 yX6_metres wsX6_metres) := goodIn_app (goodIn_of _ (by decide +kernel)) ggX6_apart_X6_metres
set_option maxRecDepth 20000 in
theorem ggX6_apart_X6_weight : GoodIn wsX6_apart wsX6_weight := goodIn_r _ [10, 1, 11, 12, 13, 14, 15, 16, 17, 18, 19, 20, 21] (by decide +kernel) (by decide +kernel)
set_option maxRecDepth 20000 in
theorem gX6_apart_X6_weight : GoodIn wsX6_apart (wsV RX6 40 RX6 yX6_weight wsX6_weight) := goodIn_app (goodIn_of _ (by decide +kernel)) ggX6_apart_X6_weight
theorem dX6_apart_0 : decode cX6_apart 0 = .ok (.iconst 0, 1) := by decide +kernel
theorem dX6_apart_1 : decode cX6_apart 1 = .ok (.istore_n 3, 1) := by decide +kernel
theorem dX6_apart_2 : decode cX6_apart 2 = .ok (.iconst 0, 1) := by decide +kernel
theorem dX6_apart_3 : decode cX6_apart 3 = .ok (.istore 4, 2) := by decide +kernel
theorem dX6_apart_5 : decode cX6_apart 5 = .ok (.iconst 0, 1) := by decide +kernel
theorem dX6_apart_6 : decode cX6_apart 6 = .ok (.istore 5, 2) := by decide +kernel
theorem dX6_apart_8 : decode cX6_apart 8 = .ok (.iload 5, 2) := by decide +kernel
theorem dX6_apart_10 : decode cX6_apart 10 = .ok (.bipush 8, 2) := by decide +kernel
theorem dX6_apart_12 : decode cX6_apart 12 = .ok (.if_icmp .ge 58, 3) := by decide +kernel
theorem dX6_apart_15 : decode cX6_apart 15 = .ok (.iload_n 1, 1) := by decide +kernel
theorem dX6_apart_16 : decode cX6_apart 16 = .ok (.iload 5, 2) := by decide +kernel
theorem dX6_apart_18 : decode cX6_apart 18 = .ok (.ishr, 1) := by decide +kernel
theorem dX6_apart_19 : decode cX6_apart 19 = .ok (.iconst 1, 1) := by decide +kernel
theorem dX6_apart_20 : decode cX6_apart 20 = .ok (.iand, 1) := by decide +kernel
theorem dX6_apart_21 : decode cX6_apart 21 = .ok (.iconst 1, 1) := by decide +kernel
theorem dX6_apart_22 : decode cX6_apart 22 = .ok (.if_icmp .ne 42, 3) := by decide +kernel
theorem dX6_apart_25 : decode cX6_apart 25 = .ok (.aload_n 0, 1) := by decide +kernel
theorem dX6_apart_26 : decode cX6_apart 26 = .ok (.iload 5, 2) := by decide +kernel
theorem dX6_apart_28 : decode cX6_apart 28 = .ok (.invokevirtual 36, 3) := by decide +kernel
theorem dX6_apart_31 : decode cX6_apart 31 = .ok (.ifCond .eq 16, 3) := by decide +kernel
theorem dX6_apart_34 : decode cX6_apart 34 = .ok (.iload 5, 2) := by decide +kernel
theorem dX6_apart_36 : decode cX6_apart 36 = .ok (.aload_n 0, 1) := by decide +kernel
theorem dX6_apart_37 : decode cX6_apart 37 = .ok (.getfield 7, 3) := by decide +kernel
theorem dX6_apart_40 : decode cX6_apart 40 = .ok (.sipush 329, 3) := by decide +kernel
theorem dX6_apart_43 : decode cX6_apart 43 = .ok (.iaload, 1) := by decide +kernel
theorem dX6_apart_44 : decode cX6_apart 44 = .ok (.if_icmp .ne 5, 3) := by decide +kernel
theorem dX6_apart_47 : decode cX6_apart 47 = .ok (.iconst (-1), 1) := by decide +kernel
theorem dX6_apart_48 : decode cX6_apart 48 = .ok (.ireturn, 1) := by decide +kernel
theorem dX6_apart_49 : decode cX6_apart 49 = .ok (.iinc 3 1, 3) := by decide +kernel
theorem dX6_apart_52 : decode cX6_apart 52 = .ok (.iload 4, 2) := by decide +kernel
theorem dX6_apart_54 : decode cX6_apart 54 = .ok (.aload_n 0, 1) := by decide +kernel
theorem dX6_apart_55 : decode cX6_apart 55 = .ok (.iload 5, 2) := by decide +kernel
theorem dX6_apart_57 : decode cX6_apart 57 = .ok (.iconst 0, 1) := by decide +kernel
theorem dX6_apart_58 : decode cX6_apart 58 = .ok (.invokevirtual 40, 3) := by decide +kernel
theorem dX6_apart_61 : decode cX6_apart 61 = .ok (.iadd, 1) := by decide +kernel
theorem dX6_apart_62 : decode cX6_apart 62 = .ok (.istore 4, 2) := by decide +kernel
theorem dX6_apart_64 : decode cX6_apart 64 = .ok (.iinc 5 1, 3) := by decide +kernel
theorem dX6_apart_67 : decode cX6_apart 67 = .ok (.goto (-59), 3) := by decide +kernel
theorem dX6_apart_70 : decode cX6_apart 70 = .ok (.iload 4, 2) := by decide +kernel
theorem dX6_apart_72 : decode cX6_apart 72 = .ok (.aload_n 0, 1) := by decide +kernel
theorem dX6_apart_73 : decode cX6_apart 73 = .ok (.getfield 7, 3) := by decide +kernel
theorem dX6_apart_76 : decode cX6_apart 76 = .ok (.sipush 341, 3) := by decide +kernel
theorem dX6_apart_79 : decode cX6_apart 79 = .ok (.iaload, 1) := by decide +kernel
theorem dX6_apart_80 : decode cX6_apart 80 = .ok (.aload_n 0, 1) := by decide +kernel
theorem dX6_apart_81 : decode cX6_apart 81 = .ok (.getfield 7, 3) := by decide +kernel
theorem dX6_apart_84 : decode cX6_apart 84 = .ok (.sipush 342, 3) := by decide +kernel
theorem dX6_apart_87 : decode cX6_apart 87 = .ok (.iaload, 1) := by decide +kernel
theorem dX6_apart_88 : decode cX6_apart 88 = .ok (.imul, 1) := by decide +kernel
theorem dX6_apart_89 : decode cX6_apart 89 = .ok (.isub, 1) := by decide +kernel
theorem dX6_apart_90 : decode cX6_apart 90 = .ok (.istore 5, 2) := by decide +kernel
theorem dX6_apart_92 : decode cX6_apart 92 = .ok (.iload_n 3, 1) := by decide +kernel
theorem dX6_apart_93 : decode cX6_apart 93 = .ok (.iload_n 2, 1) := by decide +kernel
theorem dX6_apart_94 : decode cX6_apart 94 = .ok (.if_icmp .eq 7, 3) := by decide +kernel
theorem dX6_apart_97 : decode cX6_apart 97 = .ok (.iconst (-1), 1) := by decide +kernel
theorem dX6_apart_98 : decode cX6_apart 98 = .ok (.goto 16, 3) := by decide +kernel
theorem dX6_apart_101 : decode cX6_apart 101 = .ok (.iload 5, 2) := by decide +kernel
theorem dX6_apart_103 : decode cX6_apart 103 = .ok (.ifCond .ge 9, 3) := by decide +kernel
theorem dX6_apart_106 : decode cX6_apart 106 = .ok (.iload 5, 2) := by decide +kernel
theorem dX6_apart_108 : decode cX6_apart 108 = .ok (.ineg, 1) := by decide +kernel
theorem dX6_apart_109 : decode cX6_apart 109 = .ok (.goto 5, 3) := by decide +kernel
theorem dX6_apart_112 : decode cX6_apart 112 = .ok (.iload 5, 2) := by decide +kernel
theorem dX6_apart_114 : decode cX6_apart 114 = .ok (.ireturn, 1) := by decide +kernel
set_option maxRecDepth 20000 in
theorem ggX6_cansFor_X6_apart : GoodIn wsX6_cansFor wsX6_apart := goodIn_r _ [5, 6, 7, 8, 9, 4, 10, 11, 12, 13, 14, 15, 16, 17, 18, 19, 20, 21, 22, 23, 24, 25] (by decide +kernel) (by decide +kernel)
set_option maxRecDepth 20000 in
theorem gX6_cansFor_X6_apart : GoodIn wsX6_cansFor (wsV RX6 152 RX6 yX6_apart wsX6_apart) := goodIn_app (goodIn_of _ (by decide +kernel)) ggX6_cansFor_X6_apart
theorem dX6_cansFor_0 : decode cX6_cansFor 0 = .ok (.iconst (-1), 1) := by decide +kernel
theorem dX6_cansFor_1 : decode cX6_cansFor 1 = .ok (.istore_n 2, 1) := by decide +kernel
theorem dX6_cansFor_2 : decode cX6_cansFor 2 = .ok (.iconst 0, 1) := by decide +kernel
theorem dX6_cansFor_3 : decode cX6_cansFor 3 = .ok (.istore_n 3, 1) := by decide +kernel
theorem dX6_cansFor_4 : decode cX6_cansFor 4 = .ok (.iconst 1, 1) := by decide +kernel
theorem dX6_cansFor_5 : decode cX6_cansFor 5 = .ok (.istore 4, 2) := by decide +kernel
theorem dX6_cansFor_7 : decode cX6_cansFor 7 = .ok (.iload 4, 2) := by decide +kernel
theorem dX6_cansFor_9 : decode cX6_cansFor 9 = .ok (.sipush 256, 3) := by decide +kernel
theorem dX6_cansFor_12 : decode cX6_cansFor 12 = .ok (.if_icmp .ge 54, 3) := by decide +kernel
theorem dX6_cansFor_15 : decode cX6_cansFor 15 = .ok (.aload_n 0, 1) := by decide +kernel
theorem dX6_cansFor_16 : decode cX6_cansFor 16 = .ok (.iload 4, 2) := by decide +kernel
theorem dX6_cansFor_18 : decode cX6_cansFor 18 = .ok (.iload_n 1, 1) := by decide +kernel
theorem dX6_cansFor_19 : decode cX6_cansFor 19 = .ok (.invokevirtual 152, 3) := by decide +kernel
theorem dX6_cansFor_22 : decode cX6_cansFor 22 = .ok (.istore 5, 2) := by decide +kernel
theorem dX6_cansFor_24 : decode cX6_cansFor 24 = .ok (.iload 5, 2) := by decide +kernel
theorem dX6_cansFor_26 : decode cX6_cansFor 26 = .ok (.ifCond .lt 19, 3) := by decide +kernel
theorem dX6_cansFor_29 : decode cX6_cansFor 29 = .ok (.iload_n 2, 1) := by decide +kernel
theorem dX6_cansFor_30 : decode cX6_cansFor 30 = .ok (.iconst (-1), 1) := by decide +kernel
theorem dX6_cansFor_31 : decode cX6_cansFor 31 = .ok (.if_icmp .eq 9, 3) := by decide +kernel
theorem dX6_cansFor_34 : decode cX6_cansFor 34 = .ok (.iload 5, 2) := by decide +kernel
theorem dX6_cansFor_36 : decode cX6_cansFor 36 = .ok (.iload_n 3, 1) := by decide +kernel
theorem dX6_cansFor_37 : decode cX6_cansFor 37 = .ok (.if_icmp .ge 8, 3) := by decide +kernel
theorem dX6_cansFor_40 : decode cX6_cansFor 40 = .ok (.iload 4, 2) := by decide +kernel
theorem dX6_cansFor_42 : decode cX6_cansFor 42 = .ok (.goto 4, 3) := by decide +kernel
theorem dX6_cansFor_45 : decode cX6_cansFor 45 = .ok (.iload_n 2, 1) := by decide +kernel
theorem dX6_cansFor_46 : decode cX6_cansFor 46 = .ok (.istore_n 2, 1) := by decide +kernel
theorem dX6_cansFor_47 : decode cX6_cansFor 47 = .ok (.iload_n 2, 1) := by decide +kernel
theorem dX6_cansFor_48 : decode cX6_cansFor 48 = .ok (.iload 4, 2) := by decide +kernel
theorem dX6_cansFor_50 : decode cX6_cansFor 50 = .ok (.if_icmp .ne 8, 3) := by decide +kernel
theorem dX6_cansFor_53 : decode cX6_cansFor 53 = .ok (.iload 5, 2) := by decide +kernel
theorem dX6_cansFor_55 : decode cX6_cansFor 55 = .ok (.goto 4, 3) := by decide +kernel
theorem dX6_cansFor_58 : decode cX6_cansFor 58 = .ok (.iload_n 3, 1) := by decide +kernel
theorem dX6_cansFor_59 : decode cX6_cansFor 59 = .ok (.istore_n 3, 1) := by decide +kernel
theorem dX6_cansFor_60 : decode cX6_cansFor 60 = .ok (.iinc 4 1, 3) := by decide +kernel
theorem dX6_cansFor_63 : decode cX6_cansFor 63 = .ok (.goto (-56), 3) := by decide +kernel
theorem dX6_cansFor_66 : decode cX6_cansFor 66 = .ok (.iload_n 2, 1) := by decide +kernel
theorem dX6_cansFor_67 : decode cX6_cansFor 67 = .ok (.ireturn, 1) := by decide +kernel
set_option maxRecDepth 20000 in
theorem ggX6_bestFeed_X6_in : GoodIn wsX6_bestFeed wsX6_in := goodIn_r _ [5] (by decide +kernel) (by decide +kernel)
set_option maxRecDepth 20000 in
theorem gX6_bestFeed_X6_in : GoodIn wsX6_bestFeed (va_wsS RX6 32 yX6_in wsX6_in) := goodIn_app (goodIn_of _ (by decide +kernel)) ggX6_bestFeed_X6_in
set_option maxRecDepth 20000 in
theorem ggX6_bestFeed_X6_cansFor : GoodIn wsX6_bestFeed wsX6_cansFor := goodIn_r _ [9, 10, 11, 12, 4, 13, 14, 15, 16, 17, 18, 19, 20, 21, 22, 27, 28, 29, 30, 31, 32, 33, 34, 35, 36, 37] (by decide +kernel) (by decide +kernel)
set_option maxRecDepth 20000 in
theorem gX6_bestFeed_X6_cansFor : GoodIn wsX6_bestFeed (wsV RX6 155 RX6 yX6_cansFor wsX6_cansFor) := goodIn_app (goodIn_of _ (by decide +kernel)) ggX6_bestFeed_X6_cansFor
set_option maxRecDepth 20000 in
theorem ggX6_bestFeed_X6_throwing : GoodIn wsX6_bestFeed wsX6_throwing := goodIn_r _ [26, 1, 27, 28, 29, 30, 31, 32, 33, 34, 35, 36, 37] (by decide +kernel) (by decide +kernel)
set_option maxRecDepth 20000 in
theorem gX6_bestFeed_X6_throwing : GoodIn wsX6_bestFeed (wsV RX6 98 RX6 yX6_throwing wsX6_throwing) := goodIn_app (goodIn_of _ (by decide +kernel)) ggX6_bestFeed_X6_throwing
theorem dX6_bestFeed_0 : decode cX6_bestFeed 0 = .ok (.aload_n 0, 1) := by decide +kernel
theorem dX6_bestFeed_1 : decode cX6_bestFeed 1 = .ok (.iconst 0, 1) := by decide +kernel
theorem dX6_bestFeed_2 : decode cX6_bestFeed 2 = .ok (.putfield 25, 3) := by decide +kernel
theorem dX6_bestFeed_5 : decode cX6_bestFeed 5 = .ok (.iload_n 1, 1) := by decide +kernel
theorem dX6_bestFeed_6 : decode cX6_bestFeed 6 = .ok (.iconst 1, 1) := by decide +kernel
theorem dX6_bestFeed_7 : decode cX6_bestFeed 7 = .ok (.bipush 6, 2) := by decide +kernel
theorem dX6_bestFeed_9 : decode cX6_bestFeed 9 = .ok (.invokestatic 32, 3) := by decide +kernel
theorem dX6_bestFeed_12 : decode cX6_bestFeed 12 = .ok (.ifCond .eq 11, 3) := by decide +kernel
theorem dX6_bestFeed_15 : decode cX6_bestFeed 15 = .ok (.aload_n 0, 1) := by decide +kernel
theorem dX6_bestFeed_16 : decode cX6_bestFeed 16 = .ok (.iload_n 1, 1) := by decide +kernel
theorem dX6_bestFeed_17 : decode cX6_bestFeed 17 = .ok (.invokevirtual 155, 3) := by decide +kernel
theorem dX6_bestFeed_20 : decode cX6_bestFeed 20 = .ok (.goto 8, 3) := by decide +kernel
theorem dX6_bestFeed_23 : decode cX6_bestFeed 23 = .ok (.aload_n 0, 1) := by decide +kernel
theorem dX6_bestFeed_24 : decode cX6_bestFeed 24 = .ok (.iconst 1, 1) := by decide +kernel
theorem dX6_bestFeed_25 : decode cX6_bestFeed 25 = .ok (.invokevirtual 98, 3) := by decide +kernel
theorem dX6_bestFeed_28 : decode cX6_bestFeed 28 = .ok (.ireturn, 1) := by decide +kernel
set_option maxRecDepth 20000 in
theorem ggX6_meanOf_X6_metres : GoodIn wsX6_meanOf wsX6_metres := goodIn_r _ [5, 6, 15, 16, 17, 18, 19, 20, 21, 22, 23, 24, 25] (by decide +kernel) (by decide +kernel)
set_option maxRecDepth 20000 in
theorem gX6_meanOf_X6_metres : GoodIn wsX6_meanOf (wsV RX6 36 RX6 yX6_metres wsX6_metres) := goodIn_app (goodIn_of _ (by decide +kernel)) ggX6_meanOf_X6_metres
set_option maxRecDepth 20000 in
theorem ggX6_meanOf_X6_sum : GoodIn wsX6_meanOf wsX6_sum := goodIn_r _ [10, 1, 2, 3, 4, 5, 6, 11, 12, 13, 14, 15, 16, 17, 18, 19, 20, 21, 22, 23, 24, 25] (by decide +kernel) (by decide +kernel)
set_option maxRecDepth 20000 in
theorem gX6_meanOf_X6_sum : GoodIn wsX6_meanOf (wsV RX6 107 RX6 yX6_sum wsX6_sum) := goodIn_app (goodIn_of _ (by decide +kernel)) ggX6_meanOf_X6_sum
theorem dX6_meanOf_0 : decode cX6_meanOf 0 = .ok (.aload_n 0, 1) := by decide +kernel
theorem dX6_meanOf_1 : decode cX6_meanOf 1 = .ok (.iload_n 1, 1) := by decide +kernel
theorem dX6_meanOf_2 : decode cX6_meanOf 2 = .ok (.invokevirtual 36, 3) := by decide +kernel
theorem dX6_meanOf_5 : decode cX6_meanOf 5 = .ok (.ifCond .ne 7, 3) := by decide +kernel
theorem dX6_meanOf_8 : decode cX6_meanOf 8 = .ok (.dconst 0, 1) := by decide +kernel
theorem dX6_meanOf_9 : decode cX6_meanOf 9 = .ok (.goto 16, 3) := by decide +kernel
theorem dX6_meanOf_12 : decode cX6_meanOf 12 = .ok (.aload_n 0, 1) := by decide +kernel
theorem dX6_meanOf_13 : decode cX6_meanOf 13 = .ok (.iload_n 1, 1) := by decide +kernel
theorem dX6_meanOf_14 : decode cX6_meanOf 14 = .ok (.invokevirtual 107, 3) := by decide +kernel
theorem dX6_meanOf_17 : decode cX6_meanOf 17 = .ok (.i2d, 1) := by decide +kernel
theorem dX6_meanOf_18 : decode cX6_meanOf 18 = .ok (.aload_n 0, 1) := by decide +kernel
theorem dX6_meanOf_19 : decode cX6_meanOf 19 = .ok (.iload_n 1, 1) := by decide +kernel
theorem dX6_meanOf_20 : decode cX6_meanOf 20 = .ok (.invokevirtual 36, 3) := by decide +kernel
theorem dX6_meanOf_23 : decode cX6_meanOf 23 = .ok (.i2d, 1) := by decide +kernel
theorem dX6_meanOf_24 : decode cX6_meanOf 24 = .ok (.ddiv, 1) := by decide +kernel
theorem dX6_meanOf_25 : decode cX6_meanOf 25 = .ok (.dreturn, 1) := by decide +kernel
set_option maxRecDepth 20000 in
theorem ggX6_mean_X6_isCan : GoodIn wsX6_mean wsX6_isCan := goodIn_r _ [5, 6, 7, 4, 8] (by decide +kernel) (by decide +kernel)
set_option maxRecDepth 20000 in
theorem gX6_mean_X6_isCan : GoodIn wsX6_mean (va_wsS RX6 95 yX6_isCan wsX6_isCan) := goodIn_app (goodIn_of _ (by decide +kernel)) ggX6_mean_X6_isCan
set_option maxRecDepth 20000 in
theorem ggX6_mean_X6_meanOf : GoodIn wsX6_mean wsX6_meanOf := goodIn_r _ [12, 13, 14, 15, 4, 16, 17, 18, 19, 20, 21, 22, 23, 24, 25, 26, 27, 28, 29, 30, 31, 32, 33, 34, 35, 36] (by decide +kernel) (by decide +kernel)
set_option maxRecDepth 20000 in
theorem gX6_mean_X6_meanOf : GoodIn wsX6_mean (wsV RX6 158 RX6 yX6_meanOf wsX6_meanOf) := goodIn_app (goodIn_of _ (by decide +kernel)) ggX6_mean_X6_meanOf
theorem dX6_mean_0 : decode cX6_mean 0 = .ok (.aload_n 0, 1) := by decide +kernel
theorem dX6_mean_1 : decode cX6_mean 1 = .ok (.iconst 0, 1) := by decide +kernel
theorem dX6_mean_2 : decode cX6_mean 2 = .ok (.putfield 25, 3) := by decide +kernel
theorem dX6_mean_5 : decode cX6_mean 5 = .ok (.iload_n 1, 1) := by decide +kernel
theorem dX6_mean_6 : decode cX6_mean 6 = .ok (.invokestatic 95, 3) := by decide +kernel
theorem dX6_mean_9 : decode cX6_mean 9 = .ok (.ifCond .ne 10, 3) := by decide +kernel
theorem dX6_mean_12 : decode cX6_mean 12 = .ok (.aload_n 0, 1) := by decide +kernel
theorem dX6_mean_13 : decode cX6_mean 13 = .ok (.iconst 1, 1) := by decide +kernel
theorem dX6_mean_14 : decode cX6_mean 14 = .ok (.putfield 25, 3) := by decide +kernel
theorem dX6_mean_17 : decode cX6_mean 17 = .ok (.dconst 0, 1) := by decide +kernel
theorem dX6_mean_18 : decode cX6_mean 18 = .ok (.dreturn, 1) := by decide +kernel
theorem dX6_mean_19 : decode cX6_mean 19 = .ok (.aload_n 0, 1) := by decide +kernel
theorem dX6_mean_20 : decode cX6_mean 20 = .ok (.iload_n 1, 1) := by decide +kernel
theorem dX6_mean_21 : decode cX6_mean 21 = .ok (.invokevirtual 158, 3) := by decide +kernel
theorem dX6_mean_24 : decode cX6_mean 24 = .ok (.dreturn, 1) := by decide +kernel
theorem dX6_wasted_0 : decode cX6_wasted 0 = .ok (.aload_n 0, 1) := by decide +kernel
theorem dX6_wasted_1 : decode cX6_wasted 1 = .ok (.getfield 7, 3) := by decide +kernel
theorem dX6_wasted_4 : decode cX6_wasted 4 = .ok (.sipush 348, 3) := by decide +kernel
theorem dX6_wasted_7 : decode cX6_wasted 7 = .ok (.iaload, 1) := by decide +kernel
theorem dX6_wasted_8 : decode cX6_wasted 8 = .ok (.ifCond .ne 7, 3) := by decide +kernel
theorem dX6_wasted_11 : decode cX6_wasted 11 = .ok (.fconst 0, 1) := by decide +kernel
theorem dX6_wasted_12 : decode cX6_wasted 12 = .ok (.goto 22, 3) := by decide +kernel
theorem dX6_wasted_15 : decode cX6_wasted 15 = .ok (.aload_n 0, 1) := by decide +kernel
theorem dX6_wasted_16 : decode cX6_wasted 16 = .ok (.getfield 7, 3) := by decide +kernel
theorem dX6_wasted_19 : decode cX6_wasted 19 = .ok (.sipush 347, 3) := by decide +kernel
theorem dX6_wasted_22 : decode cX6_wasted 22 = .ok (.iaload, 1) := by decide +kernel
theorem dX6_wasted_23 : decode cX6_wasted 23 = .ok (.i2f, 1) := by decide +kernel
theorem dX6_wasted_24 : decode cX6_wasted 24 = .ok (.aload_n 0, 1) := by decide +kernel
theorem dX6_wasted_25 : decode cX6_wasted 25 = .ok (.getfield 7, 3) := by decide +kernel
theorem dX6_wasted_28 : decode cX6_wasted 28 = .ok (.sipush 348, 3) := by decide +kernel
theorem dX6_wasted_31 : decode cX6_wasted 31 = .ok (.iaload, 1) := by decide +kernel
theorem dX6_wasted_32 : decode cX6_wasted 32 = .ok (.i2f, 1) := by decide +kernel
theorem dX6_wasted_33 : decode cX6_wasted 33 = .ok (.fdiv, 1) := by decide +kernel
theorem dX6_wasted_34 : decode cX6_wasted 34 = .ok (.freturn, 1) := by decide +kernel
set_option maxRecDepth 20000 in
theorem ggX6_wasteShare_X6_wasted : GoodIn wsX6_wasteShare wsX6_wasted := goodIn_r _ [6, 7, 8, 9, 10, 11, 12, 13, 14, 15, 16, 17, 18] (by decide +kernel) (by decide +kernel)
set_option maxRecDepth 20000 in
theorem gX6_wasteShare_X6_wasted : GoodIn wsX6_wasteShare (wsV RX6 162 RX6 yX6_wasted wsX6_wasted) := goodIn_app (goodIn_of _ (by decide +kernel)) ggX6_wasteShare_X6_wasted
theorem dX6_wasteShare_0 : decode cX6_wasteShare 0 = .ok (.aload_n 0, 1) := by decide +kernel
theorem dX6_wasteShare_1 : decode cX6_wasteShare 1 = .ok (.iconst 0, 1) := by decide +kernel
theorem dX6_wasteShare_2 : decode cX6_wasteShare 2 = .ok (.putfield 25, 3) := by decide +kernel
theorem dX6_wasteShare_5 : decode cX6_wasteShare 5 = .ok (.aload_n 0, 1) := by decide +kernel
theorem dX6_wasteShare_6 : decode cX6_wasteShare 6 = .ok (.invokevirtual 162, 3) := by decide +kernel
theorem dX6_wasteShare_9 : decode cX6_wasteShare 9 = .ok (.freturn, 1) := by decide +kernel
theorem dX6_bitsOf_0 : decode cX6_bitsOf 0 = .ok (.dload_n 0, 1) := by decide +kernel
theorem dX6_bitsOf_1 : decode cX6_bitsOf 1 = .ok (.dconst 0, 1) := by decide +kernel
theorem dX6_bitsOf_2 : decode cX6_bitsOf 2 = .ok (.dcmp .l, 1) := by decide +kernel
theorem dX6_bitsOf_3 : decode cX6_bitsOf 3 = .ok (.ifCond .ne 5, 3) := by decide +kernel
theorem dX6_bitsOf_6 : decode cX6_bitsOf 6 = .ok (.lconst 0, 1) := by decide +kernel
theorem dX6_bitsOf_7 : decode cX6_bitsOf 7 = .ok (.lreturn, 1) := by decide +kernel
theorem dX6_bitsOf_8 : decode cX6_bitsOf 8 = .ok (.ldc2_w 166, 3) := by decide +kernel
theorem dX6_bitsOf_11 : decode cX6_bitsOf 11 = .ok (.lstore_n 2, 1) := by decide +kernel
theorem dX6_bitsOf_12 : decode cX6_bitsOf 12 = .ok (.dload_n 0, 1) := by decide +kernel
theorem dX6_bitsOf_13 : decode cX6_bitsOf 13 = .ok (.dstore 4, 2) := by decide +kernel
theorem dX6_bitsOf_15 : decode cX6_bitsOf 15 = .ok (.dload 4, 2) := by decide +kernel
theorem dX6_bitsOf_17 : decode cX6_bitsOf 17 = .ok (.dconst 1, 1) := by decide +kernel
theorem dX6_bitsOf_18 : decode cX6_bitsOf 18 = .ok (.dcmp .g, 1) := by decide +kernel
theorem dX6_bitsOf_19 : decode cX6_bitsOf 19 = .ok (.ifCond .ge 18, 3) := by decide +kernel
theorem dX6_bitsOf_22 : decode cX6_bitsOf 22 = .ok (.dload 4, 2) := by decide +kernel
theorem dX6_bitsOf_24 : decode cX6_bitsOf 24 = .ok (.ldc2_w 168, 3) := by decide +kernel
theorem dX6_bitsOf_27 : decode cX6_bitsOf 27 = .ok (.dmul, 1) := by decide +kernel
theorem dX6_bitsOf_28 : decode cX6_bitsOf 28 = .ok (.dstore 4, 2) := by decide +kernel
theorem dX6_bitsOf_30 : decode cX6_bitsOf 30 = .ok (.lload_n 2, 1) := by decide +kernel
theorem dX6_bitsOf_31 : decode cX6_bitsOf 31 = .ok (.lconst 1, 1) := by decide +kernel
theorem dX6_bitsOf_32 : decode cX6_bitsOf 32 = .ok (.lsub, 1) := by decide +kernel
theorem dX6_bitsOf_33 : decode cX6_bitsOf 33 = .ok (.lstore_n 2, 1) := by decide +kernel
theorem dX6_bitsOf_34 : decode cX6_bitsOf 34 = .ok (.goto (-19), 3) := by decide +kernel
theorem dX6_bitsOf_37 : decode cX6_bitsOf 37 = .ok (.dload 4, 2) := by decide +kernel
theorem dX6_bitsOf_39 : decode cX6_bitsOf 39 = .ok (.ldc2_w 168, 3) := by decide +kernel
theorem dX6_bitsOf_42 : decode cX6_bitsOf 42 = .ok (.dcmp .l, 1) := by decide +kernel
theorem dX6_bitsOf_43 : decode cX6_bitsOf 43 = .ok (.ifCond .lt 18, 3) := by decide +kernel
theorem dX6_bitsOf_46 : decode cX6_bitsOf 46 = .ok (.dload 4, 2) := by decide +kernel
theorem dX6_bitsOf_48 : decode cX6_bitsOf 48 = .ok (.ldc2_w 168, 3) := by decide +kernel
theorem dX6_bitsOf_51 : decode cX6_bitsOf 51 = .ok (.ddiv, 1) := by decide +kernel
theorem dX6_bitsOf_52 : decode cX6_bitsOf 52 = .ok (.dstore 4, 2) := by decide +kernel
theorem dX6_bitsOf_54 : decode cX6_bitsOf 54 = .ok (.lload_n 2, 1) := by decide +kernel
theorem dX6_bitsOf_55 : decode cX6_bitsOf 55 = .ok (.lconst 1, 1) := by decide +kernel
theorem dX6_bitsOf_56 : decode cX6_bitsOf 56 = .ok (.ladd, 1) := by decide +kernel
theorem dX6_bitsOf_57 : decode cX6_bitsOf 57 = .ok (.lstore_n 2, 1) := by decide +kernel
theorem dX6_bitsOf_58 : decode cX6_bitsOf 58 = .ok (.goto (-21), 3) := by decide +kernel
theorem dX6_bitsOf_61 : decode cX6_bitsOf 61 = .ok (.lload_n 2, 1) := by decide +kernel
theorem dX6_bitsOf_62 : decode cX6_bitsOf 62 = .ok (.ldc2_w 170, 3) := by decide +kernel
theorem dX6_bitsOf_65 : decode cX6_bitsOf 65 = .ok (.lmul, 1) := by decide +kernel
theorem dX6_bitsOf_66 : decode cX6_bitsOf 66 = .ok (.dload 4, 2) := by decide +kernel
theorem dX6_bitsOf_68 : decode cX6_bitsOf 68 = .ok (.dconst 1, 1) := by decide +kernel
theorem dX6_bitsOf_69 : decode cX6_bitsOf 69 = .ok (.dsub, 1) := by decide +kernel
theorem dX6_bitsOf_70 : decode cX6_bitsOf 70 = .ok (.ldc2_w 172, 3) := by decide +kernel
theorem dX6_bitsOf_73 : decode cX6_bitsOf 73 = .ok (.dmul, 1) := by decide +kernel
theorem dX6_bitsOf_74 : decode cX6_bitsOf 74 = .ok (.d2l, 1) := by decide +kernel
theorem dX6_bitsOf_75 : decode cX6_bitsOf 75 = .ok (.ladd, 1) := by decide +kernel
theorem dX6_bitsOf_76 : decode cX6_bitsOf 76 = .ok (.lreturn, 1) := by decide +kernel
theorem dX6_shortBitsOf_0 : decode cX6_shortBitsOf 0 = .ok (.fload_n 0, 1) := by decide +kernel
theorem dX6_shortBitsOf_1 : decode cX6_shortBitsOf 1 = .ok (.fconst 0, 1) := by decide +kernel
theorem dX6_shortBitsOf_2 : decode cX6_shortBitsOf 2 = .ok (.fcmp .l, 1) := by decide +kernel
theorem dX6_shortBitsOf_3 : decode cX6_shortBitsOf 3 = .ok (.ifCond .ne 5, 3) := by decide +kernel
theorem dX6_shortBitsOf_6 : decode cX6_shortBitsOf 6 = .ok (.iconst 0, 1) := by decide +kernel
theorem dX6_shortBitsOf_7 : decode cX6_shortBitsOf 7 = .ok (.ireturn, 1) := by decide +kernel
theorem dX6_shortBitsOf_8 : decode cX6_shortBitsOf 8 = .ok (.bipush 127, 2) := by decide +kernel
theorem dX6_shortBitsOf_10 : decode cX6_shortBitsOf 10 = .ok (.istore_n 1, 1) := by decide +kernel
theorem dX6_shortBitsOf_11 : decode cX6_shortBitsOf 11 = .ok (.fload_n 0, 1) := by decide +kernel
theorem dX6_shortBitsOf_12 : decode cX6_shortBitsOf 12 = .ok (.fstore_n 2, 1) := by decide +kernel
theorem dX6_shortBitsOf_13 : decode cX6_shortBitsOf 13 = .ok (.fload_n 2, 1) := by decide +kernel
theorem dX6_shortBitsOf_14 : decode cX6_shortBitsOf 14 = .ok (.fconst 1, 1) := by decide +kernel
theorem dX6_shortBitsOf_15 : decode cX6_shortBitsOf 15 = .ok (.fcmp .g, 1) := by decide +kernel
theorem dX6_shortBitsOf_16 : decode cX6_shortBitsOf 16 = .ok (.ifCond .ge 13, 3) := by decide +kernel
theorem dX6_shortBitsOf_19 : decode cX6_shortBitsOf 19 = .ok (.fload_n 2, 1) := by decide +kernel
theorem dX6_shortBitsOf_20 : decode cX6_shortBitsOf 20 = .ok (.fconst 2, 1) := by decide +kernel
theorem dX6_shortBitsOf_21 : decode cX6_shortBitsOf 21 = .ok (.fmul, 1) := by decide +kernel
theorem dX6_shortBitsOf_22 : decode cX6_shortBitsOf 22 = .ok (.fstore_n 2, 1) := by decide +kernel
theorem dX6_shortBitsOf_23 : decode cX6_shortBitsOf 23 = .ok (.iinc 1 (-1), 3) := by decide +kernel
theorem dX6_shortBitsOf_26 : decode cX6_shortBitsOf 26 = .ok (.goto (-13), 3) := by decide +kernel
theorem dX6_shortBitsOf_29 : decode cX6_shortBitsOf 29 = .ok (.fload_n 2, 1) := by decide +kernel
theorem dX6_shortBitsOf_30 : decode cX6_shortBitsOf 30 = .ok (.fconst 2, 1) := by decide +kernel
theorem dX6_shortBitsOf_31 : decode cX6_shortBitsOf 31 = .ok (.fcmp .l, 1) := by decide +kernel
theorem dX6_shortBitsOf_32 : decode cX6_shortBitsOf 32 = .ok (.ifCond .lt 13, 3) := by decide +kernel
theorem dX6_shortBitsOf_35 : decode cX6_shortBitsOf 35 = .ok (.fload_n 2, 1) := by decide +kernel
theorem dX6_shortBitsOf_36 : decode cX6_shortBitsOf 36 = .ok (.fconst 2, 1) := by decide +kernel
theorem dX6_shortBitsOf_37 : decode cX6_shortBitsOf 37 = .ok (.fdiv, 1) := by decide +kernel
theorem dX6_shortBitsOf_38 : decode cX6_shortBitsOf 38 = .ok (.fstore_n 2, 1) := by decide +kernel
theorem dX6_shortBitsOf_39 : decode cX6_shortBitsOf 39 = .ok (.iinc 1 1, 3) := by decide +kernel
theorem dX6_shortBitsOf_42 : decode cX6_shortBitsOf 42 = .ok (.goto (-13), 3) := by decide +kernel
theorem dX6_shortBitsOf_45 : decode cX6_shortBitsOf 45 = .ok (.iload_n 1, 1) := by decide +kernel
theorem dX6_shortBitsOf_46 : decode cX6_shortBitsOf 46 = .ok (.ldc 174, 2) := by decide +kernel
theorem dX6_shortBitsOf_48 : decode cX6_shortBitsOf 48 = .ok (.imul, 1) := by decide +kernel
theorem dX6_shortBitsOf_49 : decode cX6_shortBitsOf 49 = .ok (.fload_n 2, 1) := by decide +kernel
theorem dX6_shortBitsOf_50 : decode cX6_shortBitsOf 50 = .ok (.fconst 1, 1) := by decide +kernel
theorem dX6_shortBitsOf_51 : decode cX6_shortBitsOf 51 = .ok (.fsub, 1) := by decide +kernel
theorem dX6_shortBitsOf_52 : decode cX6_shortBitsOf 52 = .ok (.ldc 175, 2) := by decide +kernel
theorem dX6_shortBitsOf_54 : decode cX6_shortBitsOf 54 = .ok (.fmul, 1) := by decide +kernel
theorem dX6_shortBitsOf_55 : decode cX6_shortBitsOf 55 = .ok (.f2i, 1) := by decide +kernel
theorem dX6_shortBitsOf_56 : decode cX6_shortBitsOf 56 = .ok (.iadd, 1) := by decide +kernel
theorem dX6_shortBitsOf_57 : decode cX6_shortBitsOf 57 = .ok (.ireturn, 1) := by decide +kernel
set_option maxRecDepth 20000 in
theorem ggX6_digest_X6_counted : GoodIn wsX6_digest wsX6_counted := goodIn_r _ [12, 4, 13, 14, 15, 16, 11, 17, 18, 19, 20, 21, 22, 23, 24, 25, 26, 27, 28, 29, 131, 132, 133, 134, 135, 136, 137, 138, 139, 140, 141] (by decide +kernel) (by decide +kernel)
set_option maxRecDepth 20000 in
theorem gX6_digest_X6_counted : GoodIn wsX6_digest (wsV RX6 137 RX6 yX6_counted wsX6_counted) := goodIn_app (goodIn_of _ (by decide +kernel)) ggX6_digest_X6_counted
set_option maxRecDepth 20000 in
theorem ggX6_digest_X6_canNumber : GoodIn wsX6_digest wsX6_canNumber := goodIn_r _ [33, 22, 23, 24, 11, 25, 4, 18, 19, 20, 21, 26, 27, 28, 29, 34, 35, 36, 37, 38, 39, 40, 41, 42, 43, 44, 45, 46, 47, 48, 49, 131, 132, 133, 134, 135, 136, 137, 138, 139, 140, 141] (by decide +kernel) (by decide +kernel)
set_option maxRecDepth 20000 in
theorem gX6_digest_X6_canNumber : GoodIn wsX6_digest (wsV RX6 128 RX6 yX6_canNumber wsX6_canNumber) := goodIn_app (goodIn_of _ (by decide +kernel)) ggX6_digest_X6_canNumber
set_option maxRecDepth 20000 in
theorem ggX6_digest_X6_metres : GoodIn wsX6_digest wsX6_metres := goodIn_r _ [25, 4, 131, 132, 133, 134, 135, 136, 137, 138, 139, 140, 141] (by decide +kernel) (by decide +kernel)
set_option maxRecDepth 20000 in
theorem gX6_digest_X6_metres : GoodIn wsX6_digest (wsV RX6 36 RX6 yX6_metres wsX6_metres) := goodIn_app (goodIn_of _ (by decide +kernel)) ggX6_digest_X6_metres
set_option maxRecDepth 20000 in
theorem ggX6_digest_X6_weight : GoodIn wsX6_digest wsX6_weight := goodIn_r _ [29, 4, 131, 132, 133, 134, 135, 136, 137, 138, 139, 140, 141] (by decide +kernel) (by decide +kernel)
set_option maxRecDepth 20000 in
theorem gX6_digest_X6_weight : GoodIn wsX6_digest (wsV RX6 40 RX6 yX6_weight wsX6_weight) := goodIn_app (goodIn_of _ (by decide +kernel)) ggX6_digest_X6_weight
set_option maxRecDepth 20000 in
theorem ggX6_digest_X6_meanOf : GoodIn wsX6_digest wsX6_meanOf := goodIn_r _ [53, 22, 23, 24, 11, 25, 4, 18, 19, 20, 21, 26, 27, 28, 29, 131, 132, 133, 134, 135, 136, 137, 138, 139, 140, 141] (by decide +kernel) (by decide +kernel)
set_option maxRecDepth 20000 in
theorem gX6_digest_X6_meanOf : GoodIn wsX6_digest (wsV RX6 158 RX6 yX6_meanOf wsX6_meanOf) := goodIn_app (goodIn_of _ (by decide +kernel)) ggX6_digest_X6_meanOf
set_option maxRecDepth 20000 in
theorem ggX6_digest_X6_bitsOf : GoodIn wsX6_digest wsX6_bitsOf := goodIn_r _ [56, 57, 58, 59, 60] (by decide +kernel) (by decide +kernel)
set_option maxRecDepth 20000 in
theorem gX6_digest_X6_bitsOf : GoodIn wsX6_digest (va_wsS RX6 180 yX6_bitsOf wsX6_bitsOf) := goodIn_app (goodIn_of _ (by decide +kernel)) ggX6_digest_X6_bitsOf
set_option maxRecDepth 20000 in
theorem ggX6_digest_X6_remembered : GoodIn wsX6_digest wsX6_remembered := goodIn_r _ [64, 4, 131, 132, 133, 134, 135, 136, 137, 138, 139, 140, 141] (by decide +kernel) (by decide +kernel)
set_option maxRecDepth 20000 in
theorem gX6_digest_X6_remembered : GoodIn wsX6_digest (wsV RX6 131 RX6 yX6_remembered wsX6_remembered) := goodIn_app (goodIn_of _ (by decide +kernel)) ggX6_digest_X6_remembered
set_option maxRecDepth 20000 in
theorem ggX6_digest_X6_reason : GoodIn wsX6_digest wsX6_reason := goodIn_r _ [68, 4, 46, 47, 48, 11, 49, 22, 23, 24, 25, 69, 70, 71, 72, 26, 27, 28, 29, 73, 74, 75, 76, 77, 78, 79, 80, 131, 132, 133, 134, 135, 136, 137, 138, 139, 140, 141] (by decide +kernel) (by decide +kernel)
set_option maxRecDepth 20000 in
theorem gX6_digest_X6_reason : GoodIn wsX6_digest (wsV RX6 66 RX6 yX6_reason wsX6_reason) := goodIn_app (goodIn_of _ (by decide +kernel)) ggX6_digest_X6_reason
set_option maxRecDepth 20000 in
theorem ggX6_digest_X6_tried : GoodIn wsX6_digest wsX6_tried := goodIn_r _ [84, 4, 85, 86, 87, 88, 11, 89, 90, 91, 92, 93, 65, 66, 67, 68, 46, 47, 48, 49, 22, 23, 24, 25, 69, 70, 71, 72, 26, 27, 28, 29, 73, 74, 75, 76, 77, 78, 79, 80, 94, 95, 96, 97, 98, 99, 100, 101, 102, 103, 104, 105, 30, 31, 32, 33, 18, 19, 20, 21, 34, 35, 36, 37, 38, 39, 40, 41, 42, 43, 44, 45, 106, 107, 108, 109, 131, 132, 133, 134, 135, 136, 137, 138, 139, 140, 141] (by decide +kernel) (by decide +kernel)
set_option maxRecDepth 20000 in
theorem gX6_digest_X6_tried : GoodIn wsX6_digest (wsV RX6 146 RX6 yX6_tried wsX6_tried) := goodIn_app (goodIn_of _ (by decide +kernel)) ggX6_digest_X6_tried
set_option maxRecDepth 20000 in
theorem ggX6_digest_X6_lagFor : GoodIn wsX6_digest wsX6_lagFor := goodIn_r _ [113, 4, 81, 82, 83, 11, 84, 85, 86, 87, 88, 89, 90, 91, 92, 93, 65, 66, 67, 68, 46, 47, 48, 49, 22, 23, 24, 25, 69, 70, 71, 72, 26, 27, 28, 29, 73, 74, 75, 76, 77, 78, 79, 80, 94, 95, 96, 97, 98, 99, 100, 101, 102, 103, 104, 105, 30, 31, 32, 33, 18, 19, 20, 21, 34, 35, 36, 37, 38, 39, 40, 41, 42, 43, 44, 45, 106, 107, 108, 109, 131, 132, 133, 134, 135, 136, 137, 138, 139, 140, 141] (by decide +kernel) (by decide +kernel)
set_option maxRecDepth 20000 in
theorem gX6_digest_X6_lagFor : GoodIn wsX6_digest (wsV RX6 149 RX6 yX6_lagFor wsX6_lagFor) := goodIn_app (goodIn_of _ (by decide +kernel)) ggX6_digest_X6_lagFor
set_option maxRecDepth 20000 in
theorem ggX6_digest_X6_cansFor : GoodIn wsX6_digest wsX6_cansFor := goodIn_r _ [117, 118, 119, 120, 11, 121, 4, 22, 23, 24, 25, 26, 27, 28, 29, 131, 132, 133, 134, 135, 136, 137, 138, 139, 140, 141] (by decide +kernel) (by decide +kernel)
set_option maxRecDepth 20000 in
theorem gX6_digest_X6_cansFor : GoodIn wsX6_digest (wsV RX6 155 RX6 yX6_cansFor wsX6_cansFor) := goodIn_app (goodIn_of _ (by decide +kernel)) ggX6_digest_X6_cansFor
set_option maxRecDepth 20000 in
theorem ggX6_digest_X6_wasted : GoodIn wsX6_digest wsX6_wasted := goodIn_r _ [125, 4, 131, 132, 133, 134, 135, 136, 137, 138, 139, 140, 141] (by decide +kernel) (by decide +kernel)
set_option maxRecDepth 20000 in
theorem gX6_digest_X6_wasted : GoodIn wsX6_digest (wsV RX6 162 RX6 yX6_wasted wsX6_wasted) := goodIn_app (goodIn_of _ (by decide +kernel)) ggX6_digest_X6_wasted
set_option maxRecDepth 20000 in
theorem ggX6_digest_X6_shortBitsOf : GoodIn wsX6_digest wsX6_shortBitsOf := goodIn_r _ [128, 129, 130] (by decide +kernel) (by decide +kernel)
set_option maxRecDepth 20000 in
theorem gX6_digest_X6_shortBitsOf : GoodIn wsX6_digest (va_wsS RX6 184 yX6_shortBitsOf wsX6_shortBitsOf) := goodIn_app (goodIn_of _ (by decide +kernel)) ggX6_digest_X6_shortBitsOf
theorem dX6_digest_0 : decode cX6_digest 0 = .ok (.aload_n 0, 1) := by decide +kernel
theorem dX6_digest_1 : decode cX6_digest 1 = .ok (.iconst 0, 1) := by decide +kernel
theorem dX6_digest_2 : decode cX6_digest 2 = .ok (.putfield 25, 3) := by decide +kernel
theorem dX6_digest_5 : decode cX6_digest 5 = .ok (.ldc2_w 176, 3) := by decide +kernel
theorem dX6_digest_8 : decode cX6_digest 8 = .ok (.lstore_n 1, 1) := by decide +kernel
theorem dX6_digest_9 : decode cX6_digest 9 = .ok (.iconst 0, 1) := by decide +kernel
theorem dX6_digest_10 : decode cX6_digest 10 = .ok (.istore_n 3, 1) := by decide +kernel
theorem dX6_digest_11 : decode cX6_digest 11 = .ok (.iload_n 3, 1) := by decide +kernel
theorem dX6_digest_12 : decode cX6_digest 12 = .ok (.bipush 12, 2) := by decide +kernel
theorem dX6_digest_14 : decode cX6_digest 14 = .ok (.if_icmp .ge 22, 3) := by decide +kernel
theorem dX6_digest_17 : decode cX6_digest 17 = .ok (.ldc2_w 178, 3) := by decide +kernel
theorem dX6_digest_20 : decode cX6_digest 20 = .ok (.lload_n 1, 1) := by decide +kernel
theorem dX6_digest_21 : decode cX6_digest 21 = .ok (.lmul, 1) := by decide +kernel
theorem dX6_digest_22 : decode cX6_digest 22 = .ok (.aload_n 0, 1) := by decide +kernel
theorem dX6_digest_23 : decode cX6_digest 23 = .ok (.iload_n 3, 1) := by decide +kernel
theorem dX6_digest_24 : decode cX6_digest 24 = .ok (.invokevirtual 137, 3) := by decide +kernel
theorem dX6_digest_27 : decode cX6_digest 27 = .ok (.i2l, 1) := by decide +kernel
theorem dX6_digest_28 : decode cX6_digest 28 = .ok (.ladd, 1) := by decide +kernel
theorem dX6_digest_29 : decode cX6_digest 29 = .ok (.lstore_n 1, 1) := by decide +kernel
theorem dX6_digest_30 : decode cX6_digest 30 = .ok (.iinc 3 1, 3) := by decide +kernel
theorem dX6_digest_33 : decode cX6_digest 33 = .ok (.goto (-22), 3) := by decide +kernel
theorem dX6_digest_36 : decode cX6_digest 36 = .ok (.iconst 0, 1) := by decide +kernel
theorem dX6_digest_37 : decode cX6_digest 37 = .ok (.istore_n 3, 1) := by decide +kernel
theorem dX6_digest_38 : decode cX6_digest 38 = .ok (.iload_n 3, 1) := by decide +kernel
theorem dX6_digest_39 : decode cX6_digest 39 = .ok (.iconst 5, 1) := by decide +kernel
theorem dX6_digest_40 : decode cX6_digest 40 = .ok (.if_icmp .ge 27, 3) := by decide +kernel
theorem dX6_digest_43 : decode cX6_digest 43 = .ok (.ldc2_w 178, 3) := by decide +kernel
theorem dX6_digest_46 : decode cX6_digest 46 = .ok (.lload_n 1, 1) := by decide +kernel
theorem dX6_digest_47 : decode cX6_digest 47 = .ok (.lmul, 1) := by decide +kernel
theorem dX6_digest_48 : decode cX6_digest 48 = .ok (.aload_n 0, 1) := by decide +kernel
theorem dX6_digest_49 : decode cX6_digest 49 = .ok (.getfield 7, 3) := by decide +kernel
theorem dX6_digest_52 : decode cX6_digest 52 = .ok (.sipush 340, 3) := by decide +kernel
theorem dX6_digest_55 : decode cX6_digest 55 = .ok (.iload_n 3, 1) := by decide +kernel
theorem dX6_digest_56 : decode cX6_digest 56 = .ok (.iadd, 1) := by decide +kernel
theorem dX6_digest_57 : decode cX6_digest 57 = .ok (.iaload, 1) := by decide +kernel
theorem dX6_digest_58 : decode cX6_digest 58 = .ok (.i2l, 1) := by decide +kernel
theorem dX6_digest_59 : decode cX6_digest 59 = .ok (.ladd, 1) := by decide +kernel
theorem dX6_digest_60 : decode cX6_digest 60 = .ok (.lstore_n 1, 1) := by decide +kernel
theorem dX6_digest_61 : decode cX6_digest 61 = .ok (.iinc 3 1, 3) := by decide +kernel
theorem dX6_digest_64 : decode cX6_digest 64 = .ok (.goto (-26), 3) := by decide +kernel
theorem dX6_digest_67 : decode cX6_digest 67 = .ok (.iconst 0, 1) := by decide +kernel
theorem dX6_digest_68 : decode cX6_digest 68 = .ok (.istore_n 3, 1) := by decide +kernel
theorem dX6_digest_69 : decode cX6_digest 69 = .ok (.iload_n 3, 1) := by decide +kernel
theorem dX6_digest_70 : decode cX6_digest 70 = .ok (.bipush 8, 2) := by decide +kernel
theorem dX6_digest_72 : decode cX6_digest 72 = .ok (.if_icmp .ge 89, 3) := by decide +kernel
theorem dX6_digest_75 : decode cX6_digest 75 = .ok (.iconst 0, 1) := by decide +kernel
theorem dX6_digest_76 : decode cX6_digest 76 = .ok (.istore 4, 2) := by decide +kernel
theorem dX6_digest_78 : decode cX6_digest 78 = .ok (.iload 4, 2) := by decide +kernel
theorem dX6_digest_80 : decode cX6_digest 80 = .ok (.bipush 8, 2) := by decide +kernel
theorem dX6_digest_82 : decode cX6_digest 82 = .ok (.if_icmp .ge 24, 3) := by decide +kernel
theorem dX6_digest_85 : decode cX6_digest 85 = .ok (.ldc2_w 178, 3) := by decide +kernel
theorem dX6_digest_88 : decode cX6_digest 88 = .ok (.lload_n 1, 1) := by decide +kernel
theorem dX6_digest_89 : decode cX6_digest 89 = .ok (.lmul, 1) := by decide +kernel
theorem dX6_digest_90 : decode cX6_digest 90 = .ok (.aload_n 0, 1) := by decide +kernel
theorem dX6_digest_91 : decode cX6_digest 91 = .ok (.iload_n 3, 1) := by decide +kernel
theorem dX6_digest_92 : decode cX6_digest 92 = .ok (.iload 4, 2) := by decide +kernel
theorem dX6_digest_94 : decode cX6_digest 94 = .ok (.invokevirtual 128, 3) := by decide +kernel
theorem dX6_digest_97 : decode cX6_digest 97 = .ok (.i2l, 1) := by decide +kernel
theorem dX6_digest_98 : decode cX6_digest 98 = .ok (.ladd, 1) := by decide +kernel
theorem dX6_digest_99 : decode cX6_digest 99 = .ok (.lstore_n 1, 1) := by decide +kernel
theorem dX6_digest_100 : decode cX6_digest 100 = .ok (.iinc 4 1, 3) := by decide +kernel
theorem dX6_digest_103 : decode cX6_digest 103 = .ok (.goto (-25), 3) := by decide +kernel
theorem dX6_digest_106 : decode cX6_digest 106 = .ok (.iconst 0, 1) := by decide +kernel
theorem dX6_digest_107 : decode cX6_digest 107 = .ok (.istore 4, 2) := by decide +kernel
theorem dX6_digest_109 : decode cX6_digest 109 = .ok (.iload 4, 2) := by decide +kernel
theorem dX6_digest_111 : decode cX6_digest 111 = .ok (.aload_n 0, 1) := by decide +kernel
theorem dX6_digest_112 : decode cX6_digest 112 = .ok (.iload_n 3, 1) := by decide +kernel
theorem dX6_digest_113 : decode cX6_digest 113 = .ok (.invokevirtual 36, 3) := by decide +kernel
theorem dX6_digest_116 : decode cX6_digest 116 = .ok (.if_icmp .ge 24, 3) := by decide +kernel
theorem dX6_digest_119 : decode cX6_digest 119 = .ok (.ldc2_w 178, 3) := by decide +kernel
theorem dX6_digest_122 : decode cX6_digest 122 = .ok (.lload_n 1, 1) := by decide +kernel
theorem dX6_digest_123 : decode cX6_digest 123 = .ok (.lmul, 1) := by decide +kernel
theorem dX6_digest_124 : decode cX6_digest 124 = .ok (.aload_n 0, 1) := by decide +kernel
theorem dX6_digest_125 : decode cX6_digest 125 = .ok (.iload_n 3, 1) := by decide +kernel
theorem dX6_digest_126 : decode cX6_digest 126 = .ok (.iload 4, 2) := by decide +kernel
theorem dX6_digest_128 : decode cX6_digest 128 = .ok (.invokevirtual 40, 3) := by decide +kernel
theorem dX6_digest_131 : decode cX6_digest 131 = .ok (.i2l, 1) := by decide +kernel
theorem dX6_digest_132 : decode cX6_digest 132 = .ok (.ladd, 1) := by decide +kernel
theorem dX6_digest_133 : decode cX6_digest 133 = .ok (.lstore_n 1, 1) := by decide +kernel
theorem dX6_digest_134 : decode cX6_digest 134 = .ok (.iinc 4 1, 3) := by decide +kernel
theorem dX6_digest_137 : decode cX6_digest 137 = .ok (.goto (-28), 3) := by decide +kernel
theorem dX6_digest_140 : decode cX6_digest 140 = .ok (.ldc2_w 178, 3) := by decide +kernel
theorem dX6_digest_143 : decode cX6_digest 143 = .ok (.lload_n 1, 1) := by decide +kernel
theorem dX6_digest_144 : decode cX6_digest 144 = .ok (.lmul, 1) := by decide +kernel
theorem dX6_digest_145 : decode cX6_digest 145 = .ok (.aload_n 0, 1) := by decide +kernel
theorem dX6_digest_146 : decode cX6_digest 146 = .ok (.iload_n 3, 1) := by decide +kernel
theorem dX6_digest_147 : decode cX6_digest 147 = .ok (.invokevirtual 158, 3) := by decide +kernel
theorem dX6_digest_150 : decode cX6_digest 150 = .ok (.invokestatic 180, 3) := by decide +kernel
theorem dX6_digest_153 : decode cX6_digest 153 = .ok (.ladd, 1) := by decide +kernel
theorem dX6_digest_154 : decode cX6_digest 154 = .ok (.lstore_n 1, 1) := by decide +kernel
theorem dX6_digest_155 : decode cX6_digest 155 = .ok (.iinc 3 1, 3) := by decide +kernel
theorem dX6_digest_158 : decode cX6_digest 158 = .ok (.goto (-89), 3) := by decide +kernel
theorem dX6_digest_161 : decode cX6_digest 161 = .ok (.iconst 0, 1) := by decide +kernel
theorem dX6_digest_162 : decode cX6_digest 162 = .ok (.istore_n 3, 1) := by decide +kernel
theorem dX6_digest_163 : decode cX6_digest 163 = .ok (.iload_n 3, 1) := by decide +kernel
theorem dX6_digest_164 : decode cX6_digest 164 = .ok (.bipush 7, 2) := by decide +kernel
theorem dX6_digest_166 : decode cX6_digest 166 = .ok (.if_icmp .ge 22, 3) := by decide +kernel
theorem dX6_digest_169 : decode cX6_digest 169 = .ok (.ldc2_w 178, 3) := by decide +kernel
theorem dX6_digest_172 : decode cX6_digest 172 = .ok (.lload_n 1, 1) := by decide +kernel
theorem dX6_digest_173 : decode cX6_digest 173 = .ok (.lmul, 1) := by decide +kernel
theorem dX6_digest_174 : decode cX6_digest 174 = .ok (.aload_n 0, 1) := by decide +kernel
theorem dX6_digest_175 : decode cX6_digest 175 = .ok (.iload_n 3, 1) := by decide +kernel
theorem dX6_digest_176 : decode cX6_digest 176 = .ok (.invokevirtual 131, 3) := by decide +kernel
theorem dX6_digest_179 : decode cX6_digest 179 = .ok (.i2l, 1) := by decide +kernel
theorem dX6_digest_180 : decode cX6_digest 180 = .ok (.ladd, 1) := by decide +kernel
theorem dX6_digest_181 : decode cX6_digest 181 = .ok (.lstore_n 1, 1) := by decide +kernel
theorem dX6_digest_182 : decode cX6_digest 182 = .ok (.iinc 3 1, 3) := by decide +kernel
theorem dX6_digest_185 : decode cX6_digest 185 = .ok (.goto (-22), 3) := by decide +kernel
theorem dX6_digest_188 : decode cX6_digest 188 = .ok (.ldc2_w 178, 3) := by decide +kernel
theorem dX6_digest_191 : decode cX6_digest 191 = .ok (.lload_n 1, 1) := by decide +kernel
theorem dX6_digest_192 : decode cX6_digest 192 = .ok (.lmul, 1) := by decide +kernel
theorem dX6_digest_193 : decode cX6_digest 193 = .ok (.aload_n 0, 1) := by decide +kernel
theorem dX6_digest_194 : decode cX6_digest 194 = .ok (.invokevirtual 66, 3) := by decide +kernel
theorem dX6_digest_197 : decode cX6_digest 197 = .ok (.i2l, 1) := by decide +kernel
theorem dX6_digest_198 : decode cX6_digest 198 = .ok (.ladd, 1) := by decide +kernel
theorem dX6_digest_199 : decode cX6_digest 199 = .ok (.lstore_n 1, 1) := by decide +kernel
theorem dX6_digest_200 : decode cX6_digest 200 = .ok (.iconst 0, 1) := by decide +kernel
theorem dX6_digest_201 : decode cX6_digest 201 = .ok (.istore_n 3, 1) := by decide +kernel
theorem dX6_digest_202 : decode cX6_digest 202 = .ok (.iload_n 3, 1) := by decide +kernel
theorem dX6_digest_203 : decode cX6_digest 203 = .ok (.iconst 5, 1) := by decide +kernel
theorem dX6_digest_204 : decode cX6_digest 204 = .ok (.if_icmp .ge 24, 3) := by decide +kernel
theorem dX6_digest_207 : decode cX6_digest 207 = .ok (.ldc2_w 178, 3) := by decide +kernel
theorem dX6_digest_210 : decode cX6_digest 210 = .ok (.lload_n 1, 1) := by decide +kernel
theorem dX6_digest_211 : decode cX6_digest 211 = .ok (.lmul, 1) := by decide +kernel
theorem dX6_digest_212 : decode cX6_digest 212 = .ok (.aload_n 0, 1) := by decide +kernel
theorem dX6_digest_213 : decode cX6_digest 213 = .ok (.bipush 10, 2) := by decide +kernel
theorem dX6_digest_215 : decode cX6_digest 215 = .ok (.iload_n 3, 1) := by decide +kernel
theorem dX6_digest_216 : decode cX6_digest 216 = .ok (.invokevirtual 146, 3) := by decide +kernel
theorem dX6_digest_219 : decode cX6_digest 219 = .ok (.i2l, 1) := by decide +kernel
theorem dX6_digest_220 : decode cX6_digest 220 = .ok (.ladd, 1) := by decide +kernel
theorem dX6_digest_221 : decode cX6_digest 221 = .ok (.lstore_n 1, 1) := by decide +kernel
theorem dX6_digest_222 : decode cX6_digest 222 = .ok (.iinc 3 1, 3) := by decide +kernel
theorem dX6_digest_225 : decode cX6_digest 225 = .ok (.goto (-23), 3) := by decide +kernel
theorem dX6_digest_228 : decode cX6_digest 228 = .ok (.ldc2_w 178, 3) := by decide +kernel
theorem dX6_digest_231 : decode cX6_digest 231 = .ok (.lload_n 1, 1) := by decide +kernel
theorem dX6_digest_232 : decode cX6_digest 232 = .ok (.lmul, 1) := by decide +kernel
theorem dX6_digest_233 : decode cX6_digest 233 = .ok (.aload_n 0, 1) := by decide +kernel
theorem dX6_digest_234 : decode cX6_digest 234 = .ok (.bipush 10, 2) := by decide +kernel
theorem dX6_digest_236 : decode cX6_digest 236 = .ok (.invokevirtual 149, 3) := by decide +kernel
theorem dX6_digest_239 : decode cX6_digest 239 = .ok (.i2l, 1) := by decide +kernel
theorem dX6_digest_240 : decode cX6_digest 240 = .ok (.ladd, 1) := by decide +kernel
theorem dX6_digest_241 : decode cX6_digest 241 = .ok (.lstore_n 1, 1) := by decide +kernel
theorem dX6_digest_242 : decode cX6_digest 242 = .ok (.iconst 1, 1) := by decide +kernel
theorem dX6_digest_243 : decode cX6_digest 243 = .ok (.istore_n 3, 1) := by decide +kernel
theorem dX6_digest_244 : decode cX6_digest 244 = .ok (.iload_n 3, 1) := by decide +kernel
theorem dX6_digest_245 : decode cX6_digest 245 = .ok (.bipush 7, 2) := by decide +kernel
theorem dX6_digest_247 : decode cX6_digest 247 = .ok (.if_icmp .ge 22, 3) := by decide +kernel
theorem dX6_digest_250 : decode cX6_digest 250 = .ok (.ldc2_w 178, 3) := by decide +kernel
theorem dX6_digest_253 : decode cX6_digest 253 = .ok (.lload_n 1, 1) := by decide +kernel
theorem dX6_digest_254 : decode cX6_digest 254 = .ok (.lmul, 1) := by decide +kernel
theorem dX6_digest_255 : decode cX6_digest 255 = .ok (.aload_n 0, 1) := by decide +kernel
theorem dX6_digest_256 : decode cX6_digest 256 = .ok (.iload_n 3, 1) := by decide +kernel
theorem dX6_digest_257 : decode cX6_digest 257 = .ok (.invokevirtual 155, 3) := by decide +kernel
theorem dX6_digest_260 : decode cX6_digest 260 = .ok (.i2l, 1) := by decide +kernel
theorem dX6_digest_261 : decode cX6_digest 261 = .ok (.ladd, 1) := by decide +kernel
theorem dX6_digest_262 : decode cX6_digest 262 = .ok (.lstore_n 1, 1) := by decide +kernel
theorem dX6_digest_263 : decode cX6_digest 263 = .ok (.iinc 3 1, 3) := by decide +kernel
theorem dX6_digest_266 : decode cX6_digest 266 = .ok (.goto (-22), 3) := by decide +kernel
theorem dX6_digest_269 : decode cX6_digest 269 = .ok (.ldc2_w 178, 3) := by decide +kernel
theorem dX6_digest_272 : decode cX6_digest 272 = .ok (.lload_n 1, 1) := by decide +kernel
theorem dX6_digest_273 : decode cX6_digest 273 = .ok (.lmul, 1) := by decide +kernel
theorem dX6_digest_274 : decode cX6_digest 274 = .ok (.aload_n 0, 1) := by decide +kernel
theorem dX6_digest_275 : decode cX6_digest 275 = .ok (.invokevirtual 162, 3) := by decide +kernel
theorem dX6_digest_278 : decode cX6_digest 278 = .ok (.invokestatic 184, 3) := by decide +kernel
theorem dX6_digest_281 : decode cX6_digest 281 = .ok (.i2l, 1) := by decide +kernel
theorem dX6_digest_282 : decode cX6_digest 282 = .ok (.ladd, 1) := by decide +kernel
theorem dX6_digest_283 : decode cX6_digest 283 = .ok (.lstore_n 1, 1) := by decide +kernel
theorem dX6_digest_284 : decode cX6_digest 284 = .ok (.ldc2_w 178, 3) := by decide +kernel
theorem dX6_digest_287 : decode cX6_digest 287 = .ok (.lload_n 1, 1) := by decide +kernel
theorem dX6_digest_288 : decode cX6_digest 288 = .ok (.lmul, 1) := by decide +kernel
theorem dX6_digest_289 : decode cX6_digest 289 = .ok (.aload_n 0, 1) := by decide +kernel
theorem dX6_digest_290 : decode cX6_digest 290 = .ok (.getfield 116, 3) := by decide +kernel
theorem dX6_digest_293 : decode cX6_digest 293 = .ok (.ifCond .eq 7, 3) := by decide +kernel
theorem dX6_digest_296 : decode cX6_digest 296 = .ok (.iconst 1, 1) := by decide +kernel
theorem dX6_digest_297 : decode cX6_digest 297 = .ok (.goto 4, 3) := by decide +kernel
theorem dX6_digest_300 : decode cX6_digest 300 = .ok (.iconst 0, 1) := by decide +kernel
theorem dX6_digest_301 : decode cX6_digest 301 = .ok (.i2l, 1) := by decide +kernel
theorem dX6_digest_302 : decode cX6_digest 302 = .ok (.ladd, 1) := by decide +kernel
theorem dX6_digest_303 : decode cX6_digest 303 = .ok (.lstore_n 1, 1) := by decide +kernel
theorem dX6_digest_304 : decode cX6_digest 304 = .ok (.ldc2_w 178, 3) := by decide +kernel
theorem dX6_digest_307 : decode cX6_digest 307 = .ok (.lload_n 1, 1) := by decide +kernel
theorem dX6_digest_308 : decode cX6_digest 308 = .ok (.lmul, 1) := by decide +kernel
theorem dX6_digest_309 : decode cX6_digest 309 = .ok (.aload_n 0, 1) := by decide +kernel
theorem dX6_digest_310 : decode cX6_digest 310 = .ok (.getfield 75, 3) := by decide +kernel
theorem dX6_digest_313 : decode cX6_digest 313 = .ok (.i2l, 1) := by decide +kernel
theorem dX6_digest_314 : decode cX6_digest 314 = .ok (.ladd, 1) := by decide +kernel
theorem dX6_digest_315 : decode cX6_digest 315 = .ok (.lstore_n 1, 1) := by decide +kernel
theorem dX6_digest_316 : decode cX6_digest 316 = .ok (.iconst 0, 1) := by decide +kernel
theorem dX6_digest_317 : decode cX6_digest 317 = .ok (.istore_n 3, 1) := by decide +kernel
theorem dX6_digest_318 : decode cX6_digest 318 = .ok (.iload_n 3, 1) := by decide +kernel
theorem dX6_digest_319 : decode cX6_digest 319 = .ok (.aload_n 0, 1) := by decide +kernel
theorem dX6_digest_320 : decode cX6_digest 320 = .ok (.getfield 75, 3) := by decide +kernel
theorem dX6_digest_323 : decode cX6_digest 323 = .ok (.if_icmp .ge 23, 3) := by decide +kernel
theorem dX6_digest_326 : decode cX6_digest 326 = .ok (.ldc2_w 178, 3) := by decide +kernel
theorem dX6_digest_329 : decode cX6_digest 329 = .ok (.lload_n 1, 1) := by decide +kernel
theorem dX6_digest_330 : decode cX6_digest 330 = .ok (.lmul, 1) := by decide +kernel
theorem dX6_digest_331 : decode cX6_digest 331 = .ok (.aload_n 0, 1) := by decide +kernel
theorem dX6_digest_332 : decode cX6_digest 332 = .ok (.getfield 22, 3) := by decide +kernel
theorem dX6_digest_335 : decode cX6_digest 335 = .ok (.iload_n 3, 1) := by decide +kernel
theorem dX6_digest_336 : decode cX6_digest 336 = .ok (.iaload, 1) := by decide +kernel
theorem dX6_digest_337 : decode cX6_digest 337 = .ok (.i2l, 1) := by decide +kernel
theorem dX6_digest_338 : decode cX6_digest 338 = .ok (.ladd, 1) := by decide +kernel
theorem dX6_digest_339 : decode cX6_digest 339 = .ok (.lstore_n 1, 1) := by decide +kernel
theorem dX6_digest_340 : decode cX6_digest 340 = .ok (.iinc 3 1, 3) := by decide +kernel
theorem dX6_digest_343 : decode cX6_digest 343 = .ok (.goto (-25), 3) := by decide +kernel
theorem dX6_digest_346 : decode cX6_digest 346 = .ok (.lload_n 1, 1) := by decide +kernel
theorem dX6_digest_347 : decode cX6_digest 347 = .ok (.lreturn, 1) := by decide +kernel
