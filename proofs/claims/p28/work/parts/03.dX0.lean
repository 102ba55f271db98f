theorem dX0_init_0 : decode cX0_init 0 = .ok (.aload_n 0, 1) := by decide +kernel
theorem dX0_init_1 : decode cX0_init 1 = .ok (.invokespecial 3, 3) := by decide +kernel
theorem dX0_init_4 : decode cX0_init 4 = .ok (.aload_n 0, 1) := by decide +kernel
theorem dX0_init_5 : decode cX0_init 5 = .ok (.sipush 320, 3) := by decide +kernel
theorem dX0_init_8 : decode cX0_init 8 = .ok (.newarray .int, 2) := by decide +kernel
theorem dX0_init_10 : decode cX0_init 10 = .ok (.putfield 9, 3) := by decide +kernel
theorem dX0_init_13 : decode cX0_init 13 = .ok (.aload_n 0, 1) := by decide +kernel
theorem dX0_init_14 : decode cX0_init 14 = .ok (.bipush 8, 2) := by decide +kernel
theorem dX0_init_16 : decode cX0_init 16 = .ok (.newarray .int, 2) := by decide +kernel
theorem dX0_init_18 : decode cX0_init 18 = .ok (.putfield 15, 3) := by decide +kernel
theorem dX0_init_21 : decode cX0_init 21 = .ok (.return_, 1) := by decide +kernel
theorem dX0_copyFrom_0 : decode cX0_copyFrom 0 = .ok (.aload_n 1, 1) := by decide +kernel
theorem dX0_copyFrom_1 : decode cX0_copyFrom 1 = .ok (.getfield 9, 3) := by decide +kernel
theorem dX0_copyFrom_4 : decode cX0_copyFrom 4 = .ok (.iconst 0, 1) := by decide +kernel
theorem dX0_copyFrom_5 : decode cX0_copyFrom 5 = .ok (.aload_n 0, 1) := by decide +kernel
theorem dX0_copyFrom_6 : decode cX0_copyFrom 6 = .ok (.getfield 9, 3) := by decide +kernel
theorem dX0_copyFrom_9 : decode cX0_copyFrom 9 = .ok (.iconst 0, 1) := by decide +kernel
theorem dX0_copyFrom_10 : decode cX0_copyFrom 10 = .ok (.aload_n 1, 1) := by decide +kernel
theorem dX0_copyFrom_11 : decode cX0_copyFrom 11 = .ok (.getfield 9, 3) := by decide +kernel
theorem dX0_copyFrom_14 : decode cX0_copyFrom 14 = .ok (.arraylength, 1) := by decide +kernel
theorem dX0_copyFrom_15 : decode cX0_copyFrom 15 = .ok (.aload_n 0, 1) := by decide +kernel
theorem dX0_copyFrom_16 : decode cX0_copyFrom 16 = .ok (.getfield 9, 3) := by decide +kernel
theorem dX0_copyFrom_19 : decode cX0_copyFrom 19 = .ok (.arraylength, 1) := by decide +kernel
theorem dX0_copyFrom_20 : decode cX0_copyFrom 20 = .ok (.invokestatic 18, 3) := by decide +kernel
theorem dX0_copyFrom_23 : decode cX0_copyFrom 23 = .ok (.invokestatic 24, 3) := by decide +kernel
theorem dX0_copyFrom_26 : decode cX0_copyFrom 26 = .ok (.aload_n 1, 1) := by decide +kernel
theorem dX0_copyFrom_27 : decode cX0_copyFrom 27 = .ok (.getfield 15, 3) := by decide +kernel
theorem dX0_copyFrom_30 : decode cX0_copyFrom 30 = .ok (.iconst 0, 1) := by decide +kernel
theorem dX0_copyFrom_31 : decode cX0_copyFrom 31 = .ok (.aload_n 0, 1) := by decide +kernel
theorem dX0_copyFrom_32 : decode cX0_copyFrom 32 = .ok (.getfield 15, 3) := by decide +kernel
theorem dX0_copyFrom_35 : decode cX0_copyFrom 35 = .ok (.iconst 0, 1) := by decide +kernel
theorem dX0_copyFrom_36 : decode cX0_copyFrom 36 = .ok (.aload_n 1, 1) := by decide +kernel
theorem dX0_copyFrom_37 : decode cX0_copyFrom 37 = .ok (.getfield 15, 3) := by decide +kernel
theorem dX0_copyFrom_40 : decode cX0_copyFrom 40 = .ok (.arraylength, 1) := by decide +kernel
theorem dX0_copyFrom_41 : decode cX0_copyFrom 41 = .ok (.aload_n 0, 1) := by decide +kernel
theorem dX0_copyFrom_42 : decode cX0_copyFrom 42 = .ok (.getfield 15, 3) := by decide +kernel
theorem dX0_copyFrom_45 : decode cX0_copyFrom 45 = .ok (.arraylength, 1) := by decide +kernel
theorem dX0_copyFrom_46 : decode cX0_copyFrom 46 = .ok (.invokestatic 18, 3) := by decide +kernel
theorem dX0_copyFrom_49 : decode cX0_copyFrom 49 = .ok (.invokestatic 24, 3) := by decide +kernel
theorem dX0_copyFrom_52 : decode cX0_copyFrom 52 = .ok (.return_, 1) := by decide +kernel
theorem dX0_sizeOf_0 : decode cX0_sizeOf 0 = .ok (.iload_n 1, 1) := by decide +kernel
theorem dX0_sizeOf_1 : decode cX0_sizeOf 1 = .ok (.ifCond .lt 21, 3) := by decide +kernel
theorem dX0_sizeOf_4 : decode cX0_sizeOf 4 = .ok (.iload_n 1, 1) := by decide +kernel
theorem dX0_sizeOf_5 : decode cX0_sizeOf 5 = .ok (.aload_n 0, 1) := by decide +kernel
theorem dX0_sizeOf_6 : decode cX0_sizeOf 6 = .ok (.getfield 15, 3) := by decide +kernel
theorem dX0_sizeOf_9 : decode cX0_sizeOf 9 = .ok (.arraylength, 1) := by decide +kernel
theorem dX0_sizeOf_10 : decode cX0_sizeOf 10 = .ok (.if_icmp .ge 12, 3) := by decide +kernel
theorem dX0_sizeOf_13 : decode cX0_sizeOf 13 = .ok (.aload_n 0, 1) := by decide +kernel
theorem dX0_sizeOf_14 : decode cX0_sizeOf 14 = .ok (.getfield 15, 3) := by decide +kernel
theorem dX0_sizeOf_17 : decode cX0_sizeOf 17 = .ok (.iload_n 1, 1) := by decide +kernel
theorem dX0_sizeOf_18 : decode cX0_sizeOf 18 = .ok (.iaload, 1) := by decide +kernel
theorem dX0_sizeOf_19 : decode cX0_sizeOf 19 = .ok (.goto 4, 3) := by decide +kernel
theorem dX0_sizeOf_22 : decode cX0_sizeOf 22 = .ok (.iconst 0, 1) := by decide +kernel
theorem dX0_sizeOf_23 : decode cX0_sizeOf 23 = .ok (.ireturn, 1) := by decide +kernel
set_option maxRecDepth 20000 in
theorem ggX0_weightOf_X0_sizeOf : GoodIn wsX0_weightOf wsX0_sizeOf := goodIn_r _ [6, 7, 8, 9] (by decide +kernel) (by decide +kernel)
set_option maxRecDepth 20000 in
theorem gX0_weightOf_X0_sizeOf : GoodIn wsX0_weightOf (wsV RX0 30 RX0 yX0_sizeOf wsX0_sizeOf) := goodIn_app (goodIn_of _ (by decide +kernel)) ggX0_weightOf_X0_sizeOf
theorem dX0_weightOf_0 : decode cX0_weightOf 0 = .ok (.iload_n 2, 1) := by decide +kernel
theorem dX0_weightOf_1 : decode cX0_weightOf 1 = .ok (.ifCond .lt 12, 3) := by decide +kernel
theorem dX0_weightOf_4 : decode cX0_weightOf 4 = .ok (.iload_n 2, 1) := by decide +kernel
theorem dX0_weightOf_5 : decode cX0_weightOf 5 = .ok (.aload_n 0, 1) := by decide +kernel
theorem dX0_weightOf_6 : decode cX0_weightOf 6 = .ok (.iload_n 1, 1) := by decide +kernel
theorem dX0_weightOf_7 : decode cX0_weightOf 7 = .ok (.invokevirtual 30, 3) := by decide +kernel
theorem dX0_weightOf_10 : decode cX0_weightOf 10 = .ok (.if_icmp .lt 5, 3) := by decide +kernel
theorem dX0_weightOf_13 : decode cX0_weightOf 13 = .ok (.iconst (-1), 1) := by decide +kernel
theorem dX0_weightOf_14 : decode cX0_weightOf 14 = .ok (.ireturn, 1) := by decide +kernel
theorem dX0_weightOf_15 : decode cX0_weightOf 15 = .ok (.iload_n 1, 1) := by decide +kernel
theorem dX0_weightOf_16 : decode cX0_weightOf 16 = .ok (.bipush 40, 2) := by decide +kernel
theorem dX0_weightOf_18 : decode cX0_weightOf 18 = .ok (.imul, 1) := by decide +kernel
theorem dX0_weightOf_19 : decode cX0_weightOf 19 = .ok (.iload_n 2, 1) := by decide +kernel
theorem dX0_weightOf_20 : decode cX0_weightOf 20 = .ok (.iadd, 1) := by decide +kernel
theorem dX0_weightOf_21 : decode cX0_weightOf 21 = .ok (.istore_n 3, 1) := by decide +kernel
theorem dX0_weightOf_22 : decode cX0_weightOf 22 = .ok (.iload_n 3, 1) := by decide +kernel
theorem dX0_weightOf_23 : decode cX0_weightOf 23 = .ok (.ifCond .lt 21, 3) := by decide +kernel
theorem dX0_weightOf_26 : decode cX0_weightOf 26 = .ok (.iload_n 3, 1) := by decide +kernel
theorem dX0_weightOf_27 : decode cX0_weightOf 27 = .ok (.aload_n 0, 1) := by decide +kernel
theorem dX0_weightOf_28 : decode cX0_weightOf 28 = .ok (.getfield 9, 3) := by decide +kernel
theorem dX0_weightOf_31 : decode cX0_weightOf 31 = .ok (.arraylength, 1) := by decide +kernel
theorem dX0_weightOf_32 : decode cX0_weightOf 32 = .ok (.if_icmp .ge 12, 3) := by decide +kernel
theorem dX0_weightOf_35 : decode cX0_weightOf 35 = .ok (.aload_n 0, 1) := by decide +kernel
theorem dX0_weightOf_36 : decode cX0_weightOf 36 = .ok (.getfield 9, 3) := by decide +kernel
theorem dX0_weightOf_39 : decode cX0_weightOf 39 = .ok (.iload_n 3, 1) := by decide +kernel
theorem dX0_weightOf_40 : decode cX0_weightOf 40 = .ok (.iaload, 1) := by decide +kernel
theorem dX0_weightOf_41 : decode cX0_weightOf 41 = .ok (.goto 4, 3) := by decide +kernel
theorem dX0_weightOf_44 : decode cX0_weightOf 44 = .ok (.iconst (-1), 1) := by decide +kernel
theorem dX0_weightOf_45 : decode cX0_weightOf 45 = .ok (.ireturn, 1) := by decide +kernel
set_option maxRecDepth 20000 in
theorem ggX0_sumOf_X0_sizeOf : GoodIn wsX0_sumOf wsX0_sizeOf := goodIn_r _ [5, 6, 12, 13] (by decide +kernel) (by decide +kernel)
set_option maxRecDepth 20000 in
theorem gX0_sumOf_X0_sizeOf : GoodIn wsX0_sumOf (wsV RX0 30 RX0 yX0_sizeOf wsX0_sizeOf) := goodIn_app (goodIn_of _ (by decide +kernel)) ggX0_sumOf_X0_sizeOf
set_option maxRecDepth 20000 in
theorem ggX0_sumOf_X0_weightOf : GoodIn wsX0_sumOf wsX0_weightOf := goodIn_r _ [10, 11, 1, 2, 3, 4, 5, 6, 12, 13] (by decide +kernel) (by decide +kernel)
set_option maxRecDepth 20000 in
theorem gX0_sumOf_X0_weightOf : GoodIn wsX0_sumOf (wsV RX0 34 RX0 yX0_weightOf wsX0_weightOf) := goodIn_app (goodIn_of _ (by decide +kernel)) ggX0_sumOf_X0_weightOf
theorem dX0_sumOf_0 : decode cX0_sumOf 0 = .ok (.aload_n 0, 1) := by decide +kernel
theorem dX0_sumOf_1 : decode cX0_sumOf 1 = .ok (.iload_n 1, 1) := by decide +kernel
theorem dX0_sumOf_2 : decode cX0_sumOf 2 = .ok (.invokevirtual 30, 3) := by decide +kernel
theorem dX0_sumOf_5 : decode cX0_sumOf 5 = .ok (.istore_n 2, 1) := by decide +kernel
theorem dX0_sumOf_6 : decode cX0_sumOf 6 = .ok (.iconst 0, 1) := by decide +kernel
theorem dX0_sumOf_7 : decode cX0_sumOf 7 = .ok (.istore_n 3, 1) := by decide +kernel
theorem dX0_sumOf_8 : decode cX0_sumOf 8 = .ok (.iconst 0, 1) := by decide +kernel
theorem dX0_sumOf_9 : decode cX0_sumOf 9 = .ok (.istore 4, 2) := by decide +kernel
theorem dX0_sumOf_11 : decode cX0_sumOf 11 = .ok (.iload 4, 2) := by decide +kernel
theorem dX0_sumOf_13 : decode cX0_sumOf 13 = .ok (.iload_n 2, 1) := by decide +kernel
theorem dX0_sumOf_14 : decode cX0_sumOf 14 = .ok (.if_icmp .ge 19, 3) := by decide +kernel
theorem dX0_sumOf_17 : decode cX0_sumOf 17 = .ok (.iload_n 3, 1) := by decide +kernel
theorem dX0_sumOf_18 : decode cX0_sumOf 18 = .ok (.aload_n 0, 1) := by decide +kernel
theorem dX0_sumOf_19 : decode cX0_sumOf 19 = .ok (.iload_n 1, 1) := by decide +kernel
theorem dX0_sumOf_20 : decode cX0_sumOf 20 = .ok (.iload 4, 2) := by decide +kernel
theorem dX0_sumOf_22 : decode cX0_sumOf 22 = .ok (.invokevirtual 34, 3) := by decide +kernel
theorem dX0_sumOf_25 : decode cX0_sumOf 25 = .ok (.iadd, 1) := by decide +kernel
theorem dX0_sumOf_26 : decode cX0_sumOf 26 = .ok (.istore_n 3, 1) := by decide +kernel
theorem dX0_sumOf_27 : decode cX0_sumOf 27 = .ok (.iinc 4 1, 3) := by decide +kernel
theorem dX0_sumOf_30 : decode cX0_sumOf 30 = .ok (.goto (-19), 3) := by decide +kernel
theorem dX0_sumOf_33 : decode cX0_sumOf 33 = .ok (.iload_n 3, 1) := by decide +kernel
theorem dX0_sumOf_34 : decode cX0_sumOf 34 = .ok (.ireturn, 1) := by decide +kernel
set_option maxRecDepth 20000 in
theorem ggX0_sumOfAll_X0_sumOf : GoodIn wsX0_sumOfAll wsX0_sumOf := goodIn_r _ [5, 6, 7, 8, 4, 9, 10, 11, 12, 13, 14, 15, 16, 17] (by decide +kernel) (by decide +kernel)
set_option maxRecDepth 20000 in
theorem gX0_sumOfAll_X0_sumOf : GoodIn wsX0_sumOfAll (wsV RX0 37 RX0 yX0_sumOf wsX0_sumOf) := goodIn_app (goodIn_of _ (by decide +kernel)) ggX0_sumOfAll_X0_sumOf
theorem dX0_sumOfAll_0 : decode cX0_sumOfAll 0 = .ok (.iconst 0, 1) := by decide +kernel
theorem dX0_sumOfAll_1 : decode cX0_sumOfAll 1 = .ok (.istore_n 1, 1) := by decide +kernel
theorem dX0_sumOfAll_2 : decode cX0_sumOfAll 2 = .ok (.iconst 0, 1) := by decide +kernel
theorem dX0_sumOfAll_3 : decode cX0_sumOfAll 3 = .ok (.istore_n 2, 1) := by decide +kernel
theorem dX0_sumOfAll_4 : decode cX0_sumOfAll 4 = .ok (.iload_n 2, 1) := by decide +kernel
theorem dX0_sumOfAll_5 : decode cX0_sumOfAll 5 = .ok (.bipush 8, 2) := by decide +kernel
theorem dX0_sumOfAll_7 : decode cX0_sumOfAll 7 = .ok (.if_icmp .ge 17, 3) := by decide +kernel
theorem dX0_sumOfAll_10 : decode cX0_sumOfAll 10 = .ok (.iload_n 1, 1) := by decide +kernel
theorem dX0_sumOfAll_11 : decode cX0_sumOfAll 11 = .ok (.aload_n 0, 1) := by decide +kernel
theorem dX0_sumOfAll_12 : decode cX0_sumOfAll 12 = .ok (.iload_n 2, 1) := by decide +kernel
theorem dX0_sumOfAll_13 : decode cX0_sumOfAll 13 = .ok (.invokevirtual 37, 3) := by decide +kernel
theorem dX0_sumOfAll_16 : decode cX0_sumOfAll 16 = .ok (.iadd, 1) := by decide +kernel
theorem dX0_sumOfAll_17 : decode cX0_sumOfAll 17 = .ok (.istore_n 1, 1) := by decide +kernel
theorem dX0_sumOfAll_18 : decode cX0_sumOfAll 18 = .ok (.iinc 2 1, 3) := by decide +kernel
theorem dX0_sumOfAll_21 : decode cX0_sumOfAll 21 = .ok (.goto (-17), 3) := by decide +kernel
theorem dX0_sumOfAll_24 : decode cX0_sumOfAll 24 = .ok (.iload_n 1, 1) := by decide +kernel
theorem dX0_sumOfAll_25 : decode cX0_sumOfAll 25 = .ok (.ireturn, 1) := by decide +kernel
set_option maxRecDepth 20000 in
theorem ggX0_leastOf_X0_sizeOf : GoodIn wsX0_leastOf wsX0_sizeOf := goodIn_r _ [9, 10, 16, 17] (by decide +kernel) (by decide +kernel)
set_option maxRecDepth 20000 in
theorem gX0_leastOf_X0_sizeOf : GoodIn wsX0_leastOf (wsV RX0 30 RX0 yX0_sizeOf wsX0_sizeOf) := goodIn_app (goodIn_of _ (by decide +kernel)) ggX0_leastOf_X0_sizeOf
set_option maxRecDepth 20000 in
theorem ggX0_leastOf_X0_weightOf : GoodIn wsX0_leastOf wsX0_weightOf := goodIn_r _ [14, 15, 5, 6, 7, 8, 9, 10, 16, 17] (by decide +kernel) (by decide +kernel)
set_option maxRecDepth 20000 in
theorem gX0_leastOf_X0_weightOf : GoodIn wsX0_leastOf (wsV RX0 34 RX0 yX0_weightOf wsX0_weightOf) := goodIn_app (goodIn_of _ (by decide +kernel)) ggX0_leastOf_X0_weightOf
theorem dX0_leastOf_0 : decode cX0_leastOf 0 = .ok (.aload_n 0, 1) := by decide +kernel
theorem dX0_leastOf_1 : decode cX0_leastOf 1 = .ok (.iload_n 1, 1) := by decide +kernel
theorem dX0_leastOf_2 : decode cX0_leastOf 2 = .ok (.invokevirtual 30, 3) := by decide +kernel
theorem dX0_leastOf_5 : decode cX0_leastOf 5 = .ok (.istore_n 2, 1) := by decide +kernel
theorem dX0_leastOf_6 : decode cX0_leastOf 6 = .ok (.aload_n 0, 1) := by decide +kernel
theorem dX0_leastOf_7 : decode cX0_leastOf 7 = .ok (.iload_n 1, 1) := by decide +kernel
theorem dX0_leastOf_8 : decode cX0_leastOf 8 = .ok (.iconst 0, 1) := by decide +kernel
theorem dX0_leastOf_9 : decode cX0_leastOf 9 = .ok (.invokevirtual 34, 3) := by decide +kernel
theorem dX0_leastOf_12 : decode cX0_leastOf 12 = .ok (.istore_n 3, 1) := by decide +kernel
theorem dX0_leastOf_13 : decode cX0_leastOf 13 = .ok (.iconst 1, 1) := by decide +kernel
theorem dX0_leastOf_14 : decode cX0_leastOf 14 = .ok (.istore 4, 2) := by decide +kernel
theorem dX0_leastOf_16 : decode cX0_leastOf 16 = .ok (.iload 4, 2) := by decide +kernel
theorem dX0_leastOf_18 : decode cX0_leastOf 18 = .ok (.iload_n 2, 1) := by decide +kernel
theorem dX0_leastOf_19 : decode cX0_leastOf 19 = .ok (.if_icmp .ge 21, 3) := by decide +kernel
theorem dX0_leastOf_22 : decode cX0_leastOf 22 = .ok (.iload_n 3, 1) := by decide +kernel
theorem dX0_leastOf_23 : decode cX0_leastOf 23 = .ok (.aload_n 0, 1) := by decide +kernel
theorem dX0_leastOf_24 : decode cX0_leastOf 24 = .ok (.iload_n 1, 1) := by decide +kernel
theorem dX0_leastOf_25 : decode cX0_leastOf 25 = .ok (.iload 4, 2) := by decide +kernel
theorem dX0_leastOf_27 : decode cX0_leastOf 27 = .ok (.invokevirtual 34, 3) := by decide +kernel
theorem dX0_leastOf_30 : decode cX0_leastOf 30 = .ok (.invokestatic 18, 3) := by decide +kernel
theorem dX0_leastOf_33 : decode cX0_leastOf 33 = .ok (.istore_n 3, 1) := by decide +kernel
theorem dX0_leastOf_34 : decode cX0_leastOf 34 = .ok (.iinc 4 1, 3) := by decide +kernel
theorem dX0_leastOf_37 : decode cX0_leastOf 37 = .ok (.goto (-21), 3) := by decide +kernel
theorem dX0_leastOf_40 : decode cX0_leastOf 40 = .ok (.iload_n 3, 1) := by decide +kernel
theorem dX0_leastOf_41 : decode cX0_leastOf 41 = .ok (.ireturn, 1) := by decide +kernel
set_option maxRecDepth 20000 in
theorem ggX0_greatestOf_X0_sizeOf : GoodIn wsX0_greatestOf wsX0_sizeOf := goodIn_r _ [9, 10, 16, 17] (by decide +kernel) (by decide +kernel)
set_option maxRecDepth 20000 in
theorem gX0_greatestOf_X0_sizeOf : GoodIn wsX0_greatestOf (wsV RX0 30 RX0 yX0_sizeOf wsX0_sizeOf) := goodIn_app (goodIn_of _ (by decide +kernel)) ggX0_greatestOf_X0_sizeOf
set_option maxRecDepth 20000 in
theorem ggX0_greatestOf_X0_weightOf : GoodIn wsX0_greatestOf wsX0_weightOf := goodIn_r _ [14, 15, 5, 6, 7, 8, 9, 10, 16, 17] (by decide +kernel) (by decide +kernel)
set_option maxRecDepth 20000 in
theorem gX0_greatestOf_X0_weightOf : GoodIn wsX0_greatestOf (wsV RX0 34 RX0 yX0_weightOf wsX0_weightOf) := goodIn_app (goodIn_of _ (by decide +kernel)) ggX0_greatestOf_X0_weightOf
theorem dX0_greatestOf_0 : decode cX0_greatestOf 0 = .ok (.aload_n 0, 1) := by decide +kernel
theorem dX0_greatestOf_1 : decode cX0_greatestOf 1 = .ok (.iload_n 1, 1) := by decide +kernel
theorem dX0_greatestOf_2 : decode cX0_greatestOf 2 = .ok (.invokevirtual 30, 3) := by decide +kernel
theorem dX0_greatestOf_5 : decode cX0_greatestOf 5 = .ok (.istore_n 2, 1) := by decide +kernel
theorem dX0_greatestOf_6 : decode cX0_greatestOf 6 = .ok (.aload_n 0, 1) := by decide +kernel
theorem dX0_greatestOf_7 : decode cX0_greatestOf 7 = .ok (.iload_n 1, 1) := by decide +kernel
theorem dX0_greatestOf_8 : decode cX0_greatestOf 8 = .ok (.iconst 0, 1) := by decide +kernel
theorem dX0_greatestOf_9 : decode cX0_greatestOf 9 = .ok (.invokevirtual 34, 3) := by decide +kernel
theorem dX0_greatestOf_12 : decode cX0_greatestOf 12 = .ok (.istore_n 3, 1) := by decide +kernel
theorem dX0_greatestOf_13 : decode cX0_greatestOf 13 = .ok (.iconst 1, 1) := by decide +kernel
theorem dX0_greatestOf_14 : decode cX0_greatestOf 14 = .ok (.istore 4, 2) := by decide +kernel
theorem dX0_greatestOf_16 : decode cX0_greatestOf 16 = .ok (.iload 4, 2) := by decide +kernel
theorem dX0_greatestOf_18 : decode cX0_greatestOf 18 = .ok (.iload_n 2, 1) := by decide +kernel
theorem dX0_greatestOf_19 : decode cX0_greatestOf 19 = .ok (.if_icmp .ge 21, 3) := by decide +kernel
theorem dX0_greatestOf_22 : decode cX0_greatestOf 22 = .ok (.iload_n 3, 1) := by decide +kernel
theorem dX0_greatestOf_23 : decode cX0_greatestOf 23 = .ok (.aload_n 0, 1) := by decide +kernel
theorem dX0_greatestOf_24 : decode cX0_greatestOf 24 = .ok (.iload_n 1, 1) := by decide +kernel
theorem dX0_greatestOf_25 : decode cX0_greatestOf 25 = .ok (.iload 4, 2) := by decide +kernel
theorem dX0_greatestOf_27 : decode cX0_greatestOf 27 = .ok (.invokevirtual 34, 3) := by decide +kernel
theorem dX0_greatestOf_30 : decode cX0_greatestOf 30 = .ok (.invokestatic 40, 3) := by decide +kernel
theorem dX0_greatestOf_33 : decode cX0_greatestOf 33 = .ok (.istore_n 3, 1) := by decide +kernel
theorem dX0_greatestOf_34 : decode cX0_greatestOf 34 = .ok (.iinc 4 1, 3) := by decide +kernel
theorem dX0_greatestOf_37 : decode cX0_greatestOf 37 = .ok (.goto (-21), 3) := by decide +kernel
theorem dX0_greatestOf_40 : decode cX0_greatestOf 40 = .ok (.iload_n 3, 1) := by decide +kernel
theorem dX0_greatestOf_41 : decode cX0_greatestOf 41 = .ok (.ireturn, 1) := by decide +kernel
set_option maxRecDepth 20000 in
theorem ggX0_spreadOf_X0_greatestOf : GoodIn wsX0_spreadOf wsX0_greatestOf := goodIn_r _ [5, 6, 7, 8, 9, 10, 11, 12, 4, 13, 14, 15, 16, 17, 18, 19, 27, 28] (by decide +kernel) (by decide +kernel)
set_option maxRecDepth 20000 in
theorem gX0_spreadOf_X0_greatestOf : GoodIn wsX0_spreadOf (wsV RX0 43 RX0 yX0_greatestOf wsX0_greatestOf) := goodIn_app (goodIn_of _ (by decide +kernel)) ggX0_spreadOf_X0_greatestOf
set_option maxRecDepth 20000 in
theorem ggX0_spreadOf_X0_leastOf : GoodIn wsX0_spreadOf wsX0_leastOf := goodIn_r _ [23, 24, 25, 8, 26, 10, 11, 12, 4, 13, 14, 15, 16, 17, 18, 19, 27, 28] (by decide +kernel) (by decide +kernel)
set_option maxRecDepth 20000 in
theorem gX0_spreadOf_X0_leastOf : GoodIn wsX0_spreadOf (wsV RX0 46 RX0 yX0_leastOf wsX0_leastOf) := goodIn_app (goodIn_of _ (by decide +kernel)) ggX0_spreadOf_X0_leastOf
theorem dX0_spreadOf_0 : decode cX0_spreadOf 0 = .ok (.aload_n 0, 1) := by decide +kernel
theorem dX0_spreadOf_1 : decode cX0_spreadOf 1 = .ok (.iload_n 1, 1) := by decide +kernel
theorem dX0_spreadOf_2 : decode cX0_spreadOf 2 = .ok (.invokevirtual 43, 3) := by decide +kernel
theorem dX0_spreadOf_5 : decode cX0_spreadOf 5 = .ok (.aload_n 0, 1) := by decide +kernel
theorem dX0_spreadOf_6 : decode cX0_spreadOf 6 = .ok (.iload_n 1, 1) := by decide +kernel
theorem dX0_spreadOf_7 : decode cX0_spreadOf 7 = .ok (.invokevirtual 46, 3) := by decide +kernel
theorem dX0_spreadOf_10 : decode cX0_spreadOf 10 = .ok (.isub, 1) := by decide +kernel
theorem dX0_spreadOf_11 : decode cX0_spreadOf 11 = .ok (.ireturn, 1) := by decide +kernel
set_option maxRecDepth 20000 in
theorem ggX0_stepsOf_X0_sizeOf : GoodIn wsX0_stepsOf wsX0_sizeOf := goodIn_r _ [9, 10, 16, 17] (by decide +kernel) (by decide +kernel)
set_option maxRecDepth 20000 in
theorem gX0_stepsOf_X0_sizeOf : GoodIn wsX0_stepsOf (wsV RX0 30 RX0 yX0_sizeOf wsX0_sizeOf) := goodIn_app (goodIn_of _ (by decide +kernel)) ggX0_stepsOf_X0_sizeOf
set_option maxRecDepth 20000 in
theorem ggX0_stepsOf_X0_weightOf : GoodIn wsX0_stepsOf wsX0_weightOf := goodIn_r _ [14, 15, 5, 6, 7, 8, 9, 10, 16, 17] (by decide +kernel) (by decide +kernel)
set_option maxRecDepth 20000 in
theorem gX0_stepsOf_X0_weightOf : GoodIn wsX0_stepsOf (wsV RX0 34 RX0 yX0_weightOf wsX0_weightOf) := goodIn_app (goodIn_of _ (by decide +kernel)) ggX0_stepsOf_X0_weightOf
theorem dX0_stepsOf_0 : decode cX0_stepsOf 0 = .ok (.aload_n 0, 1) := by decide +kernel
theorem dX0_stepsOf_1 : decode cX0_stepsOf 1 = .ok (.iload_n 1, 1) := by decide +kernel
theorem dX0_stepsOf_2 : decode cX0_stepsOf 2 = .ok (.invokevirtual 30, 3) := by decide +kernel
theorem dX0_stepsOf_5 : decode cX0_stepsOf 5 = .ok (.istore_n 2, 1) := by decide +kernel
theorem dX0_stepsOf_6 : decode cX0_stepsOf 6 = .ok (.iconst 0, 1) := by decide +kernel
theorem dX0_stepsOf_7 : decode cX0_stepsOf 7 = .ok (.istore_n 3, 1) := by decide +kernel
theorem dX0_stepsOf_8 : decode cX0_stepsOf 8 = .ok (.iconst 1, 1) := by decide +kernel
theorem dX0_stepsOf_9 : decode cX0_stepsOf 9 = .ok (.istore 4, 2) := by decide +kernel
theorem dX0_stepsOf_11 : decode cX0_stepsOf 11 = .ok (.iload 4, 2) := by decide +kernel
theorem dX0_stepsOf_13 : decode cX0_stepsOf 13 = .ok (.iload_n 2, 1) := by decide +kernel
theorem dX0_stepsOf_14 : decode cX0_stepsOf 14 = .ok (.if_icmp .ge 32, 3) := by decide +kernel
theorem dX0_stepsOf_17 : decode cX0_stepsOf 17 = .ok (.iload_n 3, 1) := by decide +kernel
theorem dX0_stepsOf_18 : decode cX0_stepsOf 18 = .ok (.aload_n 0, 1) := by decide +kernel
theorem dX0_stepsOf_19 : decode cX0_stepsOf 19 = .ok (.iload_n 1, 1) := by decide +kernel
theorem dX0_stepsOf_20 : decode cX0_stepsOf 20 = .ok (.iload 4, 2) := by decide +kernel
theorem dX0_stepsOf_22 : decode cX0_stepsOf 22 = .ok (.invokevirtual 34, 3) := by decide +kernel
theorem dX0_stepsOf_25 : decode cX0_stepsOf 25 = .ok (.aload_n 0, 1) := by decide +kernel
theorem dX0_stepsOf_26 : decode cX0_stepsOf 26 = .ok (.iload_n 1, 1) := by decide +kernel
theorem dX0_stepsOf_27 : decode cX0_stepsOf 27 = .ok (.iload 4, 2) := by decide +kernel
theorem dX0_stepsOf_29 : decode cX0_stepsOf 29 = .ok (.iconst 1, 1) := by decide +kernel
theorem dX0_stepsOf_30 : decode cX0_stepsOf 30 = .ok (.isub, 1) := by decide +kernel
theorem dX0_stepsOf_31 : decode cX0_stepsOf 31 = .ok (.invokevirtual 34, 3) := by decide +kernel
theorem dX0_stepsOf_34 : decode cX0_stepsOf 34 = .ok (.isub, 1) := by decide +kernel
theorem dX0_stepsOf_35 : decode cX0_stepsOf 35 = .ok (.invokestatic 49, 3) := by decide +kernel
theorem dX0_stepsOf_38 : decode cX0_stepsOf 38 = .ok (.iadd, 1) := by decide +kernel
theorem dX0_stepsOf_39 : decode cX0_stepsOf 39 = .ok (.istore_n 3, 1) := by decide +kernel
theorem dX0_stepsOf_40 : decode cX0_stepsOf 40 = .ok (.iinc 4 1, 3) := by decide +kernel
theorem dX0_stepsOf_43 : decode cX0_stepsOf 43 = .ok (.goto (-32), 3) := by decide +kernel
theorem dX0_stepsOf_46 : decode cX0_stepsOf 46 = .ok (.iload_n 3, 1) := by decide +kernel
theorem dX0_stepsOf_47 : decode cX0_stepsOf 47 = .ok (.ireturn, 1) := by decide +kernel
theorem dX0_maskOfFilled_0 : decode cX0_maskOfFilled 0 = .ok (.iconst 0, 1) := by decide +kernel
theorem dX0_maskOfFilled_1 : decode cX0_maskOfFilled 1 = .ok (.istore_n 1, 1) := by decide +kernel
theorem dX0_maskOfFilled_2 : decode cX0_maskOfFilled 2 = .ok (.iconst 0, 1) := by decide +kernel
theorem dX0_maskOfFilled_3 : decode cX0_maskOfFilled 3 = .ok (.istore_n 2, 1) := by decide +kernel
theorem dX0_maskOfFilled_4 : decode cX0_maskOfFilled 4 = .ok (.iload_n 2, 1) := by decide +kernel
theorem dX0_maskOfFilled_5 : decode cX0_maskOfFilled 5 = .ok (.aload_n 0, 1) := by decide +kernel
theorem dX0_maskOfFilled_6 : decode cX0_maskOfFilled 6 = .ok (.getfield 15, 3) := by decide +kernel
theorem dX0_maskOfFilled_9 : decode cX0_maskOfFilled 9 = .ok (.arraylength, 1) := by decide +kernel
theorem dX0_maskOfFilled_10 : decode cX0_maskOfFilled 10 = .ok (.if_icmp .ge 24, 3) := by decide +kernel
theorem dX0_maskOfFilled_13 : decode cX0_maskOfFilled 13 = .ok (.aload_n 0, 1) := by decide +kernel
theorem dX0_maskOfFilled_14 : decode cX0_maskOfFilled 14 = .ok (.getfield 15, 3) := by decide +kernel
theorem dX0_maskOfFilled_17 : decode cX0_maskOfFilled 17 = .ok (.iload_n 2, 1) := by decide +kernel
theorem dX0_maskOfFilled_18 : decode cX0_maskOfFilled 18 = .ok (.iaload, 1) := by decide +kernel
theorem dX0_maskOfFilled_19 : decode cX0_maskOfFilled 19 = .ok (.ifCond .le 9, 3) := by decide +kernel
theorem dX0_maskOfFilled_22 : decode cX0_maskOfFilled 22 = .ok (.iload_n 1, 1) := by decide +kernel
theorem dX0_maskOfFilled_23 : decode cX0_maskOfFilled 23 = .ok (.iconst 1, 1) := by decide +kernel
theorem dX0_maskOfFilled_24 : decode cX0_maskOfFilled 24 = .ok (.iload_n 2, 1) := by decide +kernel
theorem dX0_maskOfFilled_25 : decode cX0_maskOfFilled 25 = .ok (.ishl, 1) := by decide +kernel
theorem dX0_maskOfFilled_26 : decode cX0_maskOfFilled 26 = .ok (.ior, 1) := by decide +kernel
theorem dX0_maskOfFilled_27 : decode cX0_maskOfFilled 27 = .ok (.istore_n 1, 1) := by decide +kernel
theorem dX0_maskOfFilled_28 : decode cX0_maskOfFilled 28 = .ok (.iinc 2 1, 3) := by decide +kernel
theorem dX0_maskOfFilled_31 : decode cX0_maskOfFilled 31 = .ok (.goto (-27), 3) := by decide +kernel
theorem dX0_maskOfFilled_34 : decode cX0_maskOfFilled 34 = .ok (.iload_n 1, 1) := by decide +kernel
theorem dX0_maskOfFilled_35 : decode cX0_maskOfFilled 35 = .ok (.ireturn, 1) := by decide +kernel
set_option maxRecDepth 20000 in
theorem ggX0_frontsOf_X0_weightOf : GoodIn wsX0_frontsOf wsX0_weightOf := goodIn_r _ [5, 6, 7, 8, 9, 4, 10, 11, 12, 13] (by decide +kernel) (by decide +kernel)
set_option maxRecDepth 20000 in
theorem gX0_frontsOf_X0_weightOf : GoodIn wsX0_frontsOf (wsV RX0 34 RX0 yX0_weightOf wsX0_weightOf) := goodIn_app (goodIn_of _ (by decide +kernel)) ggX0_frontsOf_X0_weightOf
theorem dX0_frontsOf_0 : decode cX0_frontsOf 0 = .ok (.iconst 0, 1) := by decide +kernel
theorem dX0_frontsOf_1 : decode cX0_frontsOf 1 = .ok (.istore_n 2, 1) := by decide +kernel
theorem dX0_frontsOf_2 : decode cX0_frontsOf 2 = .ok (.iconst 0, 1) := by decide +kernel
theorem dX0_frontsOf_3 : decode cX0_frontsOf 3 = .ok (.istore_n 3, 1) := by decide +kernel
theorem dX0_frontsOf_4 : decode cX0_frontsOf 4 = .ok (.iload_n 3, 1) := by decide +kernel
theorem dX0_frontsOf_5 : decode cX0_frontsOf 5 = .ok (.bipush 8, 2) := by decide +kernel
theorem dX0_frontsOf_7 : decode cX0_frontsOf 7 = .ok (.if_icmp .ge 27, 3) := by decide +kernel
theorem dX0_frontsOf_10 : decode cX0_frontsOf 10 = .ok (.iload_n 1, 1) := by decide +kernel
theorem dX0_frontsOf_11 : decode cX0_frontsOf 11 = .ok (.iload_n 3, 1) := by decide +kernel
theorem dX0_frontsOf_12 : decode cX0_frontsOf 12 = .ok (.ishr, 1) := by decide +kernel
theorem dX0_frontsOf_13 : decode cX0_frontsOf 13 = .ok (.iconst 1, 1) := by decide +kernel
theorem dX0_frontsOf_14 : decode cX0_frontsOf 14 = .ok (.iand, 1) := by decide +kernel
theorem dX0_frontsOf_15 : decode cX0_frontsOf 15 = .ok (.iconst 1, 1) := by decide +kernel
theorem dX0_frontsOf_16 : decode cX0_frontsOf 16 = .ok (.if_icmp .ne 12, 3) := by decide +kernel
theorem dX0_frontsOf_19 : decode cX0_frontsOf 19 = .ok (.iload_n 2, 1) := by decide +kernel
theorem dX0_frontsOf_20 : decode cX0_frontsOf 20 = .ok (.aload_n 0, 1) := by decide +kernel
theorem dX0_frontsOf_21 : decode cX0_frontsOf 21 = .ok (.iload_n 3, 1) := by decide +kernel
theorem dX0_frontsOf_22 : decode cX0_frontsOf 22 = .ok (.iconst 0, 1) := by decide +kernel
theorem dX0_frontsOf_23 : decode cX0_frontsOf 23 = .ok (.invokevirtual 34, 3) := by decide +kernel
theorem dX0_frontsOf_26 : decode cX0_frontsOf 26 = .ok (.iadd, 1) := by decide +kernel
theorem dX0_frontsOf_27 : decode cX0_frontsOf 27 = .ok (.istore_n 2, 1) := by decide +kernel
theorem dX0_frontsOf_28 : decode cX0_frontsOf 28 = .ok (.iinc 3 1, 3) := by decide +kernel
theorem dX0_frontsOf_31 : decode cX0_frontsOf 31 = .ok (.goto (-27), 3) := by decide +kernel
theorem dX0_frontsOf_34 : decode cX0_frontsOf 34 = .ok (.iload_n 2, 1) := by decide +kernel
theorem dX0_frontsOf_35 : decode cX0_frontsOf 35 = .ok (.ireturn, 1) := by decide +kernel
set_option maxRecDepth 20000 in
theorem ggX0_dropFronts_X0_dropFront : GoodIn wsX0_dropFronts wsX0_dropFront := goodIn_r _ [5, 6, 7, 8, 9, 10, 11, 12, 13, 14, 4, 15, 16, 17] (by decide +kernel) (by decide +kernel)
set_option maxRecDepth 20000 in
theorem gX0_dropFronts_X0_dropFront : GoodIn wsX0_dropFronts (wsV RX0 52 RX0 yX0_dropFront wsX0_dropFront) := goodIn_app (goodIn_of _ (by decide +kernel)) ggX0_dropFronts_X0_dropFront
theorem dX0_dropFronts_0 : decode cX0_dropFronts 0 = .ok (.iconst 0, 1) := by decide +kernel
theorem dX0_dropFronts_1 : decode cX0_dropFronts 1 = .ok (.istore_n 2, 1) := by decide +kernel
theorem dX0_dropFronts_2 : decode cX0_dropFronts 2 = .ok (.iload_n 2, 1) := by decide +kernel
theorem dX0_dropFronts_3 : decode cX0_dropFronts 3 = .ok (.bipush 8, 2) := by decide +kernel
theorem dX0_dropFronts_5 : decode cX0_dropFronts 5 = .ok (.if_icmp .ge 23, 3) := by decide +kernel
theorem dX0_dropFronts_8 : decode cX0_dropFronts 8 = .ok (.iload_n 1, 1) := by decide +kernel
theorem dX0_dropFronts_9 : decode cX0_dropFronts 9 = .ok (.iload_n 2, 1) := by decide +kernel
theorem dX0_dropFronts_10 : decode cX0_dropFronts 10 = .ok (.ishr, 1) := by decide +kernel
theorem dX0_dropFronts_11 : decode cX0_dropFronts 11 = .ok (.iconst 1, 1) := by decide +kernel
theorem dX0_dropFronts_12 : decode cX0_dropFronts 12 = .ok (.iand, 1) := by decide +kernel
theorem dX0_dropFronts_13 : decode cX0_dropFronts 13 = .ok (.iconst 1, 1) := by decide +kernel
theorem dX0_dropFronts_14 : decode cX0_dropFronts 14 = .ok (.if_icmp .ne 8, 3) := by decide +kernel
theorem dX0_dropFronts_17 : decode cX0_dropFronts 17 = .ok (.aload_n 0, 1) := by decide +kernel
theorem dX0_dropFronts_18 : decode cX0_dropFronts 18 = .ok (.iload_n 2, 1) := by decide +kernel
theorem dX0_dropFronts_19 : decode cX0_dropFronts 19 = .ok (.invokevirtual 52, 3) := by decide +kernel
theorem dX0_dropFronts_22 : decode cX0_dropFronts 22 = .ok (.iinc 2 1, 3) := by decide +kernel
theorem dX0_dropFronts_25 : decode cX0_dropFronts 25 = .ok (.goto (-23), 3) := by decide +kernel
theorem dX0_dropFronts_28 : decode cX0_dropFronts 28 = .ok (.return_, 1) := by decide +kernel
set_option maxRecDepth 20000 in
theorem ggX0_dropFront_X0_sizeOf : GoodIn wsX0_dropFront wsX0_sizeOf := goodIn_r _ [11, 1, 12, 13] (by decide +kernel) (by decide +kernel)
set_option maxRecDepth 20000 in
theorem gX0_dropFront_X0_sizeOf : GoodIn wsX0_dropFront (wsV RX0 30 RX0 yX0_sizeOf wsX0_sizeOf) := goodIn_app (goodIn_of _ (by decide +kernel)) ggX0_dropFront_X0_sizeOf
theorem dX0_dropFront_0 : decode cX0_dropFront 0 = .ok (.iload_n 1, 1) := by decide +kernel
theorem dX0_dropFront_1 : decode cX0_dropFront 1 = .ok (.bipush 40, 2) := by decide +kernel
theorem dX0_dropFront_3 : decode cX0_dropFront 3 = .ok (.imul, 1) := by decide +kernel
theorem dX0_dropFront_4 : decode cX0_dropFront 4 = .ok (.istore_n 2, 1) := by decide +kernel
theorem dX0_dropFront_5 : decode cX0_dropFront 5 = .ok (.aload_n 0, 1) := by decide +kernel
theorem dX0_dropFront_6 : decode cX0_dropFront 6 = .ok (.iload_n 1, 1) := by decide +kernel
theorem dX0_dropFront_7 : decode cX0_dropFront 7 = .ok (.invokevirtual 30, 3) := by decide +kernel
theorem dX0_dropFront_10 : decode cX0_dropFront 10 = .ok (.istore_n 3, 1) := by decide +kernel
theorem dX0_dropFront_11 : decode cX0_dropFront 11 = .ok (.iload_n 3, 1) := by decide +kernel
theorem dX0_dropFront_12 : decode cX0_dropFront 12 = .ok (.iconst 1, 1) := by decide +kernel
theorem dX0_dropFront_13 : decode cX0_dropFront 13 = .ok (.if_icmp .lt 31, 3) := by decide +kernel
theorem dX0_dropFront_16 : decode cX0_dropFront 16 = .ok (.iload_n 1, 1) := by decide +kernel
theorem dX0_dropFront_17 : decode cX0_dropFront 17 = .ok (.ifCond .lt 27, 3) := by decide +kernel
theorem dX0_dropFront_20 : decode cX0_dropFront 20 = .ok (.iload_n 1, 1) := by decide +kernel
theorem dX0_dropFront_21 : decode cX0_dropFront 21 = .ok (.aload_n 0, 1) := by decide +kernel
theorem dX0_dropFront_22 : decode cX0_dropFront 22 = .ok (.getfield 15, 3) := by decide +kernel
theorem dX0_dropFront_25 : decode cX0_dropFront 25 = .ok (.arraylength, 1) := by decide +kernel
theorem dX0_dropFront_26 : decode cX0_dropFront 26 = .ok (.if_icmp .ge 18, 3) := by decide +kernel
theorem dX0_dropFront_29 : decode cX0_dropFront 29 = .ok (.iload_n 2, 1) := by decide +kernel
theorem dX0_dropFront_30 : decode cX0_dropFront 30 = .ok (.ifCond .lt 14, 3) := by decide +kernel
theorem dX0_dropFront_33 : decode cX0_dropFront 33 = .ok (.iload_n 2, 1) := by decide +kernel
theorem dX0_dropFront_34 : decode cX0_dropFront 34 = .ok (.iload_n 3, 1) := by decide +kernel
theorem dX0_dropFront_35 : decode cX0_dropFront 35 = .ok (.iadd, 1) := by decide +kernel
theorem dX0_dropFront_36 : decode cX0_dropFront 36 = .ok (.aload_n 0, 1) := by decide +kernel
theorem dX0_dropFront_37 : decode cX0_dropFront 37 = .ok (.getfield 9, 3) := by decide +kernel
theorem dX0_dropFront_40 : decode cX0_dropFront 40 = .ok (.arraylength, 1) := by decide +kernel
theorem dX0_dropFront_41 : decode cX0_dropFront 41 = .ok (.if_icmp .le 4, 3) := by decide +kernel
theorem dX0_dropFront_44 : decode cX0_dropFront 44 = .ok (.return_, 1) := by decide +kernel
theorem dX0_dropFront_45 : decode cX0_dropFront 45 = .ok (.aload_n 0, 1) := by decide +kernel
theorem dX0_dropFront_46 : decode cX0_dropFront 46 = .ok (.getfield 9, 3) := by decide +kernel
theorem dX0_dropFront_49 : decode cX0_dropFront 49 = .ok (.iload_n 2, 1) := by decide +kernel
theorem dX0_dropFront_50 : decode cX0_dropFront 50 = .ok (.iconst 1, 1) := by decide +kernel
theorem dX0_dropFront_51 : decode cX0_dropFront 51 = .ok (.iadd, 1) := by decide +kernel
theorem dX0_dropFront_52 : decode cX0_dropFront 52 = .ok (.aload_n 0, 1) := by decide +kernel
theorem dX0_dropFront_53 : decode cX0_dropFront 53 = .ok (.getfield 9, 3) := by decide +kernel
theorem dX0_dropFront_56 : decode cX0_dropFront 56 = .ok (.iload_n 2, 1) := by decide +kernel
theorem dX0_dropFront_57 : decode cX0_dropFront 57 = .ok (.iload_n 3, 1) := by decide +kernel
theorem dX0_dropFront_58 : decode cX0_dropFront 58 = .ok (.iconst 1, 1) := by decide +kernel
theorem dX0_dropFront_59 : decode cX0_dropFront 59 = .ok (.isub, 1) := by decide +kernel
theorem dX0_dropFront_60 : decode cX0_dropFront 60 = .ok (.invokestatic 24, 3) := by decide +kernel
theorem dX0_dropFront_63 : decode cX0_dropFront 63 = .ok (.aload_n 0, 1) := by decide +kernel
theorem dX0_dropFront_64 : decode cX0_dropFront 64 = .ok (.getfield 15, 3) := by decide +kernel
theorem dX0_dropFront_67 : decode cX0_dropFront 67 = .ok (.iload_n 1, 1) := by decide +kernel
theorem dX0_dropFront_68 : decode cX0_dropFront 68 = .ok (.iload_n 3, 1) := by decide +kernel
theorem dX0_dropFront_69 : decode cX0_dropFront 69 = .ok (.iconst 1, 1) := by decide +kernel
theorem dX0_dropFront_70 : decode cX0_dropFront 70 = .ok (.isub, 1) := by decide +kernel
theorem dX0_dropFront_71 : decode cX0_dropFront 71 = .ok (.iastore, 1) := by decide +kernel
theorem dX0_dropFront_72 : decode cX0_dropFront 72 = .ok (.return_, 1) := by decide +kernel
set_option maxRecDepth 20000 in
theorem ggX0_addBack_X0_sizeOf : GoodIn wsX0_addBack wsX0_sizeOf := goodIn_r _ [7, 1, 8, 9] (by decide +kernel) (by decide +kernel)
set_option maxRecDepth 20000 in
theorem gX0_addBack_X0_sizeOf : GoodIn wsX0_addBack (wsV RX0 30 RX0 yX0_sizeOf wsX0_sizeOf) := goodIn_app (goodIn_of _ (by decide +kernel)) ggX0_addBack_X0_sizeOf
theorem dX0_addBack_0 : decode cX0_addBack 0 = .ok (.aload_n 0, 1) := by decide +kernel
theorem dX0_addBack_1 : decode cX0_addBack 1 = .ok (.iload_n 1, 1) := by decide +kernel
theorem dX0_addBack_2 : decode cX0_addBack 2 = .ok (.invokevirtual 30, 3) := by decide +kernel
theorem dX0_addBack_5 : decode cX0_addBack 5 = .ok (.istore_n 3, 1) := by decide +kernel
theorem dX0_addBack_6 : decode cX0_addBack 6 = .ok (.iload_n 1, 1) := by decide +kernel
theorem dX0_addBack_7 : decode cX0_addBack 7 = .ok (.bipush 40, 2) := by decide +kernel
theorem dX0_addBack_9 : decode cX0_addBack 9 = .ok (.imul, 1) := by decide +kernel
theorem dX0_addBack_10 : decode cX0_addBack 10 = .ok (.iload_n 3, 1) := by decide +kernel
theorem dX0_addBack_11 : decode cX0_addBack 11 = .ok (.iadd, 1) := by decide +kernel
theorem dX0_addBack_12 : decode cX0_addBack 12 = .ok (.istore 4, 2) := by decide +kernel
theorem dX0_addBack_14 : decode cX0_addBack 14 = .ok (.iload_n 1, 1) := by decide +kernel
theorem dX0_addBack_15 : decode cX0_addBack 15 = .ok (.ifCond .lt 50, 3) := by decide +kernel
theorem dX0_addBack_18 : decode cX0_addBack 18 = .ok (.iload_n 1, 1) := by decide +kernel
theorem dX0_addBack_19 : decode cX0_addBack 19 = .ok (.aload_n 0, 1) := by decide +kernel
theorem dX0_addBack_20 : decode cX0_addBack 20 = .ok (.getfield 15, 3) := by decide +kernel
theorem dX0_addBack_23 : decode cX0_addBack 23 = .ok (.arraylength, 1) := by decide +kernel
theorem dX0_addBack_24 : decode cX0_addBack 24 = .ok (.if_icmp .ge 41, 3) := by decide +kernel
theorem dX0_addBack_27 : decode cX0_addBack 27 = .ok (.iload_n 3, 1) := by decide +kernel
theorem dX0_addBack_28 : decode cX0_addBack 28 = .ok (.bipush 40, 2) := by decide +kernel
theorem dX0_addBack_30 : decode cX0_addBack 30 = .ok (.if_icmp .ge 35, 3) := by decide +kernel
theorem dX0_addBack_33 : decode cX0_addBack 33 = .ok (.iload 4, 2) := by decide +kernel
theorem dX0_addBack_35 : decode cX0_addBack 35 = .ok (.ifCond .lt 30, 3) := by decide +kernel
theorem dX0_addBack_38 : decode cX0_addBack 38 = .ok (.iload 4, 2) := by decide +kernel
theorem dX0_addBack_40 : decode cX0_addBack 40 = .ok (.aload_n 0, 1) := by decide +kernel
theorem dX0_addBack_41 : decode cX0_addBack 41 = .ok (.getfield 9, 3) := by decide +kernel
theorem dX0_addBack_44 : decode cX0_addBack 44 = .ok (.arraylength, 1) := by decide +kernel
theorem dX0_addBack_45 : decode cX0_addBack 45 = .ok (.if_icmp .ge 20, 3) := by decide +kernel
theorem dX0_addBack_48 : decode cX0_addBack 48 = .ok (.aload_n 0, 1) := by decide +kernel
theorem dX0_addBack_49 : decode cX0_addBack 49 = .ok (.getfield 9, 3) := by decide +kernel
theorem dX0_addBack_52 : decode cX0_addBack 52 = .ok (.iload 4, 2) := by decide +kernel
theorem dX0_addBack_54 : decode cX0_addBack 54 = .ok (.iload_n 2, 1) := by decide +kernel
theorem dX0_addBack_55 : decode cX0_addBack 55 = .ok (.iastore, 1) := by decide +kernel
theorem dX0_addBack_56 : decode cX0_addBack 56 = .ok (.aload_n 0, 1) := by decide +kernel
theorem dX0_addBack_57 : decode cX0_addBack 57 = .ok (.getfield 15, 3) := by decide +kernel
theorem dX0_addBack_60 : decode cX0_addBack 60 = .ok (.iload_n 1, 1) := by decide +kernel
theorem dX0_addBack_61 : decode cX0_addBack 61 = .ok (.iload_n 3, 1) := by decide +kernel
theorem dX0_addBack_62 : decode cX0_addBack 62 = .ok (.iconst 1, 1) := by decide +kernel
theorem dX0_addBack_63 : decode cX0_addBack 63 = .ok (.iadd, 1) := by decide +kernel
theorem dX0_addBack_64 : decode cX0_addBack 64 = .ok (.iastore, 1) := by decide +kernel
theorem dX0_addBack_65 : decode cX0_addBack 65 = .ok (.return_, 1) := by decide +kernel
theorem dX0_makeEmpty_0 : decode cX0_makeEmpty 0 = .ok (.iload_n 1, 1) := by decide +kernel
theorem dX0_makeEmpty_1 : decode cX0_makeEmpty 1 = .ok (.ifCond .lt 19, 3) := by decide +kernel
theorem dX0_makeEmpty_4 : decode cX0_makeEmpty 4 = .ok (.iload_n 1, 1) := by decide +kernel
theorem dX0_makeEmpty_5 : decode cX0_makeEmpty 5 = .ok (.aload_n 0, 1) := by decide +kernel
theorem dX0_makeEmpty_6 : decode cX0_makeEmpty 6 = .ok (.getfield 15, 3) := by decide +kernel
theorem dX0_makeEmpty_9 : decode cX0_makeEmpty 9 = .ok (.arraylength, 1) := by decide +kernel
theorem dX0_makeEmpty_10 : decode cX0_makeEmpty 10 = .ok (.if_icmp .ge 10, 3) := by decide +kernel
theorem dX0_makeEmpty_13 : decode cX0_makeEmpty 13 = .ok (.aload_n 0, 1) := by decide +kernel
theorem dX0_makeEmpty_14 : decode cX0_makeEmpty 14 = .ok (.getfield 15, 3) := by decide +kernel
theorem dX0_makeEmpty_17 : decode cX0_makeEmpty 17 = .ok (.iload_n 1, 1) := by decide +kernel
theorem dX0_makeEmpty_18 : decode cX0_makeEmpty 18 = .ok (.iconst 0, 1) := by decide +kernel
theorem dX0_makeEmpty_19 : decode cX0_makeEmpty 19 = .ok (.iastore, 1) := by decide +kernel
theorem dX0_makeEmpty_20 : decode cX0_makeEmpty 20 = .ok (.return_, 1) := by decide +kernel
