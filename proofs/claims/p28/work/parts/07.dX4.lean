theorem dX4_init_0 : decode cX4_init 0 = .ok (.aload_n 0, 1) := by decide +kernel
theorem dX4_init_1 : decode cX4_init 1 = .ok (.invokespecial 3, 3) := by decide +kernel
theorem dX4_init_4 : decode cX4_init 4 = .ok (.aload_n 0, 1) := by decide +kernel
theorem dX4_init_5 : decode cX4_init 5 = .ok (.bipush 60, 2) := by decide +kernel
theorem dX4_init_7 : decode cX4_init 7 = .ok (.newarray .int, 2) := by decide +kernel
theorem dX4_init_9 : decode cX4_init 9 = .ok (.putfield 9, 3) := by decide +kernel
theorem dX4_init_12 : decode cX4_init 12 = .ok (.aload_n 0, 1) := by decide +kernel
theorem dX4_init_13 : decode cX4_init 13 = .ok (.iconst 0, 1) := by decide +kernel
theorem dX4_init_14 : decode cX4_init 14 = .ok (.putfield 15, 3) := by decide +kernel
theorem dX4_init_17 : decode cX4_init 17 = .ok (.aload_n 0, 1) := by decide +kernel
theorem dX4_init_18 : decode cX4_init 18 = .ok (.bipush 60, 2) := by decide +kernel
theorem dX4_init_20 : decode cX4_init 20 = .ok (.newarray .int, 2) := by decide +kernel
theorem dX4_init_22 : decode cX4_init 22 = .ok (.putfield 19, 3) := by decide +kernel
theorem dX4_init_25 : decode cX4_init 25 = .ok (.aload_n 0, 1) := by decide +kernel
theorem dX4_init_26 : decode cX4_init 26 = .ok (.bipush 60, 2) := by decide +kernel
theorem dX4_init_28 : decode cX4_init 28 = .ok (.newarray .int, 2) := by decide +kernel
theorem dX4_init_30 : decode cX4_init 30 = .ok (.putfield 22, 3) := by decide +kernel
theorem dX4_init_33 : decode cX4_init 33 = .ok (.aload_n 0, 1) := by decide +kernel
theorem dX4_init_34 : decode cX4_init 34 = .ok (.iconst 0, 1) := by decide +kernel
theorem dX4_init_35 : decode cX4_init 35 = .ok (.putfield 25, 3) := by decide +kernel
theorem dX4_init_38 : decode cX4_init 38 = .ok (.aload_n 0, 1) := by decide +kernel
theorem dX4_init_39 : decode cX4_init 39 = .ok (.iconst 0, 1) := by decide +kernel
theorem dX4_init_40 : decode cX4_init 40 = .ok (.putfield 28, 3) := by decide +kernel
theorem dX4_init_43 : decode cX4_init 43 = .ok (.aload_n 0, 1) := by decide +kernel
theorem dX4_init_44 : decode cX4_init 44 = .ok (.iconst 0, 1) := by decide +kernel
theorem dX4_init_45 : decode cX4_init 45 = .ok (.putfield 32, 3) := by decide +kernel
theorem dX4_init_48 : decode cX4_init 48 = .ok (.aload_n 0, 1) := by decide +kernel
theorem dX4_init_49 : decode cX4_init 49 = .ok (.iconst 0, 1) := by decide +kernel
theorem dX4_init_50 : decode cX4_init 50 = .ok (.putfield 35, 3) := by decide +kernel
theorem dX4_init_53 : decode cX4_init 53 = .ok (.aload_n 0, 1) := by decide +kernel
theorem dX4_init_54 : decode cX4_init 54 = .ok (.iconst 0, 1) := by decide +kernel
theorem dX4_init_55 : decode cX4_init 55 = .ok (.putfield 38, 3) := by decide +kernel
theorem dX4_init_58 : decode cX4_init 58 = .ok (.return_, 1) := by decide +kernel
theorem dX4_length_0 : decode cX4_length 0 = .ok (.aload_n 0, 1) := by decide +kernel
theorem dX4_length_1 : decode cX4_length 1 = .ok (.getfield 15, 3) := by decide +kernel
theorem dX4_length_4 : decode cX4_length 4 = .ok (.ireturn, 1) := by decide +kernel
theorem dX4_isFull_0 : decode cX4_isFull 0 = .ok (.aload_n 0, 1) := by decide +kernel
theorem dX4_isFull_1 : decode cX4_isFull 1 = .ok (.getfield 15, 3) := by decide +kernel
theorem dX4_isFull_4 : decode cX4_isFull 4 = .ok (.bipush 60, 2) := by decide +kernel
theorem dX4_isFull_6 : decode cX4_isFull 6 = .ok (.if_icmp .lt 7, 3) := by decide +kernel
theorem dX4_isFull_9 : decode cX4_isFull 9 = .ok (.iconst 1, 1) := by decide +kernel
theorem dX4_isFull_10 : decode cX4_isFull 10 = .ok (.goto 4, 3) := by decide +kernel
theorem dX4_isFull_13 : decode cX4_isFull 13 = .ok (.iconst 0, 1) := by decide +kernel
theorem dX4_isFull_14 : decode cX4_isFull 14 = .ok (.ireturn, 1) := by decide +kernel
theorem dX4_codeAt_0 : decode cX4_codeAt 0 = .ok (.iload_n 1, 1) := by decide +kernel
theorem dX4_codeAt_1 : decode cX4_codeAt 1 = .ok (.ifCond .lt 29, 3) := by decide +kernel
theorem dX4_codeAt_4 : decode cX4_codeAt 4 = .ok (.iload_n 1, 1) := by decide +kernel
theorem dX4_codeAt_5 : decode cX4_codeAt 5 = .ok (.aload_n 0, 1) := by decide +kernel
theorem dX4_codeAt_6 : decode cX4_codeAt 6 = .ok (.getfield 15, 3) := by decide +kernel
theorem dX4_codeAt_9 : decode cX4_codeAt 9 = .ok (.if_icmp .ge 21, 3) := by decide +kernel
theorem dX4_codeAt_12 : decode cX4_codeAt 12 = .ok (.iload_n 1, 1) := by decide +kernel
theorem dX4_codeAt_13 : decode cX4_codeAt 13 = .ok (.aload_n 0, 1) := by decide +kernel
theorem dX4_codeAt_14 : decode cX4_codeAt 14 = .ok (.getfield 9, 3) := by decide +kernel
theorem dX4_codeAt_17 : decode cX4_codeAt 17 = .ok (.arraylength, 1) := by decide +kernel
theorem dX4_codeAt_18 : decode cX4_codeAt 18 = .ok (.if_icmp .ge 12, 3) := by decide +kernel
theorem dX4_codeAt_21 : decode cX4_codeAt 21 = .ok (.aload_n 0, 1) := by decide +kernel
theorem dX4_codeAt_22 : decode cX4_codeAt 22 = .ok (.getfield 9, 3) := by decide +kernel
theorem dX4_codeAt_25 : decode cX4_codeAt 25 = .ok (.iload_n 1, 1) := by decide +kernel
theorem dX4_codeAt_26 : decode cX4_codeAt 26 = .ok (.iaload, 1) := by decide +kernel
theorem dX4_codeAt_27 : decode cX4_codeAt 27 = .ok (.goto 4, 3) := by decide +kernel
theorem dX4_codeAt_30 : decode cX4_codeAt 30 = .ok (.iconst (-1), 1) := by decide +kernel
theorem dX4_codeAt_31 : decode cX4_codeAt 31 = .ok (.ireturn, 1) := by decide +kernel
theorem dX4_add_0 : decode cX4_add 0 = .ok (.aload_n 0, 1) := by decide +kernel
theorem dX4_add_1 : decode cX4_add 1 = .ok (.getfield 15, 3) := by decide +kernel
theorem dX4_add_4 : decode cX4_add 4 = .ok (.ifCond .lt 35, 3) := by decide +kernel
theorem dX4_add_7 : decode cX4_add 7 = .ok (.aload_n 0, 1) := by decide +kernel
theorem dX4_add_8 : decode cX4_add 8 = .ok (.getfield 15, 3) := by decide +kernel
theorem dX4_add_11 : decode cX4_add 11 = .ok (.aload_n 0, 1) := by decide +kernel
theorem dX4_add_12 : decode cX4_add 12 = .ok (.getfield 9, 3) := by decide +kernel
theorem dX4_add_15 : decode cX4_add 15 = .ok (.arraylength, 1) := by decide +kernel
theorem dX4_add_16 : decode cX4_add 16 = .ok (.if_icmp .ge 23, 3) := by decide +kernel
theorem dX4_add_19 : decode cX4_add 19 = .ok (.aload_n 0, 1) := by decide +kernel
theorem dX4_add_20 : decode cX4_add 20 = .ok (.getfield 9, 3) := by decide +kernel
theorem dX4_add_23 : decode cX4_add 23 = .ok (.aload_n 0, 1) := by decide +kernel
theorem dX4_add_24 : decode cX4_add 24 = .ok (.getfield 15, 3) := by decide +kernel
theorem dX4_add_27 : decode cX4_add 27 = .ok (.iload_n 1, 1) := by decide +kernel
theorem dX4_add_28 : decode cX4_add 28 = .ok (.iastore, 1) := by decide +kernel
theorem dX4_add_29 : decode cX4_add 29 = .ok (.aload_n 0, 1) := by decide +kernel
theorem dX4_add_30 : decode cX4_add 30 = .ok (.dup, 1) := by decide +kernel
theorem dX4_add_31 : decode cX4_add 31 = .ok (.getfield 15, 3) := by decide +kernel
theorem dX4_add_34 : decode cX4_add 34 = .ok (.iconst 1, 1) := by decide +kernel
theorem dX4_add_35 : decode cX4_add 35 = .ok (.iadd, 1) := by decide +kernel
theorem dX4_add_36 : decode cX4_add 36 = .ok (.putfield 15, 3) := by decide +kernel
theorem dX4_add_39 : decode cX4_add 39 = .ok (.return_, 1) := by decide +kernel
theorem dX4_wipe_0 : decode cX4_wipe 0 = .ok (.aload_n 0, 1) := by decide +kernel
theorem dX4_wipe_1 : decode cX4_wipe 1 = .ok (.iconst 0, 1) := by decide +kernel
theorem dX4_wipe_2 : decode cX4_wipe 2 = .ok (.putfield 15, 3) := by decide +kernel
theorem dX4_wipe_5 : decode cX4_wipe 5 = .ok (.return_, 1) := by decide +kernel
theorem dX4_partCount_0 : decode cX4_partCount 0 = .ok (.aload_n 0, 1) := by decide +kernel
theorem dX4_partCount_1 : decode cX4_partCount 1 = .ok (.getfield 25, 3) := by decide +kernel
theorem dX4_partCount_4 : decode cX4_partCount 4 = .ok (.ireturn, 1) := by decide +kernel
theorem dX4_partWeight_0 : decode cX4_partWeight 0 = .ok (.iload_n 1, 1) := by decide +kernel
theorem dX4_partWeight_1 : decode cX4_partWeight 1 = .ok (.ifCond .lt 21, 3) := by decide +kernel
theorem dX4_partWeight_4 : decode cX4_partWeight 4 = .ok (.iload_n 1, 1) := by decide +kernel
theorem dX4_partWeight_5 : decode cX4_partWeight 5 = .ok (.aload_n 0, 1) := by decide +kernel
theorem dX4_partWeight_6 : decode cX4_partWeight 6 = .ok (.getfield 19, 3) := by decide +kernel
theorem dX4_partWeight_9 : decode cX4_partWeight 9 = .ok (.arraylength, 1) := by decide +kernel
theorem dX4_partWeight_10 : decode cX4_partWeight 10 = .ok (.if_icmp .ge 12, 3) := by decide +kernel
theorem dX4_partWeight_13 : decode cX4_partWeight 13 = .ok (.aload_n 0, 1) := by decide +kernel
theorem dX4_partWeight_14 : decode cX4_partWeight 14 = .ok (.getfield 19, 3) := by decide +kernel
theorem dX4_partWeight_17 : decode cX4_partWeight 17 = .ok (.iload_n 1, 1) := by decide +kernel
theorem dX4_partWeight_18 : decode cX4_partWeight 18 = .ok (.iaload, 1) := by decide +kernel
theorem dX4_partWeight_19 : decode cX4_partWeight 19 = .ok (.goto 4, 3) := by decide +kernel
theorem dX4_partWeight_22 : decode cX4_partWeight 22 = .ok (.iconst 0, 1) := by decide +kernel
theorem dX4_partWeight_23 : decode cX4_partWeight 23 = .ok (.ireturn, 1) := by decide +kernel
theorem dX4_partTimes_0 : decode cX4_partTimes 0 = .ok (.iload_n 1, 1) := by decide +kernel
theorem dX4_partTimes_1 : decode cX4_partTimes 1 = .ok (.ifCond .lt 21, 3) := by decide +kernel
theorem dX4_partTimes_4 : decode cX4_partTimes 4 = .ok (.iload_n 1, 1) := by decide +kernel
theorem dX4_partTimes_5 : decode cX4_partTimes 5 = .ok (.aload_n 0, 1) := by decide +kernel
theorem dX4_partTimes_6 : decode cX4_partTimes 6 = .ok (.getfield 22, 3) := by decide +kernel
theorem dX4_partTimes_9 : decode cX4_partTimes 9 = .ok (.arraylength, 1) := by decide +kernel
theorem dX4_partTimes_10 : decode cX4_partTimes 10 = .ok (.if_icmp .ge 12, 3) := by decide +kernel
theorem dX4_partTimes_13 : decode cX4_partTimes 13 = .ok (.aload_n 0, 1) := by decide +kernel
theorem dX4_partTimes_14 : decode cX4_partTimes 14 = .ok (.getfield 22, 3) := by decide +kernel
theorem dX4_partTimes_17 : decode cX4_partTimes 17 = .ok (.iload_n 1, 1) := by decide +kernel
theorem dX4_partTimes_18 : decode cX4_partTimes 18 = .ok (.iaload, 1) := by decide +kernel
theorem dX4_partTimes_19 : decode cX4_partTimes 19 = .ok (.goto 4, 3) := by decide +kernel
theorem dX4_partTimes_22 : decode cX4_partTimes 22 = .ok (.iconst 0, 1) := by decide +kernel
theorem dX4_partTimes_23 : decode cX4_partTimes 23 = .ok (.ireturn, 1) := by decide +kernel
set_option maxRecDepth 20000 in
theorem ggX4_metresTold_X4_partTimes : GoodIn wsX4_metresTold wsX4_partTimes := goodIn_r _ [6, 7, 8, 9, 10, 11, 12, 13, 14, 15, 16] (by decide +kernel) (by decide +kernel)
set_option maxRecDepth 20000 in
theorem gX4_metresTold_X4_partTimes : GoodIn wsX4_metresTold (wsV RX4 41 RX4 yX4_partTimes wsX4_partTimes) := goodIn_app (goodIn_of _ (by decide +kernel)) ggX4_metresTold_X4_partTimes
theorem dX4_metresTold_0 : decode cX4_metresTold 0 = .ok (.iconst 0, 1) := by decide +kernel
theorem dX4_metresTold_1 : decode cX4_metresTold 1 = .ok (.istore_n 1, 1) := by decide +kernel
theorem dX4_metresTold_2 : decode cX4_metresTold 2 = .ok (.iconst 0, 1) := by decide +kernel
theorem dX4_metresTold_3 : decode cX4_metresTold 3 = .ok (.istore_n 2, 1) := by decide +kernel
theorem dX4_metresTold_4 : decode cX4_metresTold 4 = .ok (.iload_n 2, 1) := by decide +kernel
theorem dX4_metresTold_5 : decode cX4_metresTold 5 = .ok (.aload_n 0, 1) := by decide +kernel
theorem dX4_metresTold_6 : decode cX4_metresTold 6 = .ok (.getfield 25, 3) := by decide +kernel
theorem dX4_metresTold_9 : decode cX4_metresTold 9 = .ok (.if_icmp .ge 17, 3) := by decide +kernel
theorem dX4_metresTold_12 : decode cX4_metresTold 12 = .ok (.iload_n 1, 1) := by decide +kernel
theorem dX4_metresTold_13 : decode cX4_metresTold 13 = .ok (.aload_n 0, 1) := by decide +kernel
theorem dX4_metresTold_14 : decode cX4_metresTold 14 = .ok (.iload_n 2, 1) := by decide +kernel
theorem dX4_metresTold_15 : decode cX4_metresTold 15 = .ok (.invokevirtual 41, 3) := by decide +kernel
theorem dX4_metresTold_18 : decode cX4_metresTold 18 = .ok (.iadd, 1) := by decide +kernel
theorem dX4_metresTold_19 : decode cX4_metresTold 19 = .ok (.istore_n 1, 1) := by decide +kernel
theorem dX4_metresTold_20 : decode cX4_metresTold 20 = .ok (.iinc 2 1, 3) := by decide +kernel
theorem dX4_metresTold_23 : decode cX4_metresTold 23 = .ok (.goto (-19), 3) := by decide +kernel
theorem dX4_metresTold_26 : decode cX4_metresTold 26 = .ok (.iload_n 1, 1) := by decide +kernel
theorem dX4_metresTold_27 : decode cX4_metresTold 27 = .ok (.ireturn, 1) := by decide +kernel
set_option maxRecDepth 20000 in
theorem ggX4_readWhole_X4_readToError : GoodIn wsX4_readWhole wsX4_readToError := goodIn_r _ [6, 7, 1, 8, 9, 10, 5, 11, 12, 13, 14, 15, 16, 17, 18, 19, 20, 21, 22, 23, 24, 25, 26, 27, 28, 29, 30, 31, 32, 33, 34, 35, 36, 37, 38, 39, 40, 41, 42, 43, 44, 45, 46, 47, 48, 49, 50, 51, 52, 53, 54, 55] (by decide +kernel) (by decide +kernel)
set_option maxRecDepth 20000 in
theorem gX4_readWhole_X4_readToError : GoodIn wsX4_readWhole (wsV RX4 44 RX4 yX4_readToError wsX4_readToError) := goodIn_app (goodIn_of _ (by decide +kernel)) ggX4_readWhole_X4_readToError
set_option maxRecDepth 20000 in
theorem ggX4_readWhole_X4_mayEndPart : GoodIn wsX4_readWhole wsX4_mayEndPart := goodIn_r _ [40, 12, 14, 13, 47, 48, 49, 50, 51, 52, 53, 54, 55] (by decide +kernel) (by decide +kernel)
set_option maxRecDepth 20000 in
theorem gX4_readWhole_X4_mayEndPart : GoodIn wsX4_readWhole (wsV RX4 48 RX4 yX4_mayEndPart wsX4_mayEndPart) := goodIn_app (goodIn_of _ (by decide +kernel)) ggX4_readWhole_X4_mayEndPart
set_option maxRecDepth 20000 in
theorem ggX4_readWhole_X4_endPart : GoodIn wsX4_readWhole wsX4_endPart := goodIn_r _ [44, 7, 45, 46, 12, 24, 14, 47, 48, 49, 50, 51, 52, 53, 54, 55] (by decide +kernel) (by decide +kernel)
set_option maxRecDepth 20000 in
theorem gX4_readWhole_X4_endPart : GoodIn wsX4_readWhole (wsV RX4 52 RX4 yX4_endPart wsX4_endPart) := goodIn_app (goodIn_of _ (by decide +kernel)) ggX4_readWhole_X4_endPart
theorem dX4_readWhole_0 : decode cX4_readWhole 0 = .ok (.aload_n 0, 1) := by decide +kernel
theorem dX4_readWhole_1 : decode cX4_readWhole 1 = .ok (.invokevirtual 44, 3) := by decide +kernel
theorem dX4_readWhole_4 : decode cX4_readWhole 4 = .ok (.aload_n 0, 1) := by decide +kernel
theorem dX4_readWhole_5 : decode cX4_readWhole 5 = .ok (.getfield 15, 3) := by decide +kernel
theorem dX4_readWhole_8 : decode cX4_readWhole 8 = .ok (.if_icmp .lt 10, 3) := by decide +kernel
theorem dX4_readWhole_11 : decode cX4_readWhole 11 = .ok (.aload_n 0, 1) := by decide +kernel
theorem dX4_readWhole_12 : decode cX4_readWhole 12 = .ok (.invokevirtual 48, 3) := by decide +kernel
theorem dX4_readWhole_15 : decode cX4_readWhole 15 = .ok (.ifCond .ne 5, 3) := by decide +kernel
theorem dX4_readWhole_18 : decode cX4_readWhole 18 = .ok (.iconst 0, 1) := by decide +kernel
theorem dX4_readWhole_19 : decode cX4_readWhole 19 = .ok (.ireturn, 1) := by decide +kernel
theorem dX4_readWhole_20 : decode cX4_readWhole 20 = .ok (.aload_n 0, 1) := by decide +kernel
theorem dX4_readWhole_21 : decode cX4_readWhole 21 = .ok (.invokevirtual 52, 3) := by decide +kernel
theorem dX4_readWhole_24 : decode cX4_readWhole 24 = .ok (.iconst 1, 1) := by decide +kernel
theorem dX4_readWhole_25 : decode cX4_readWhole 25 = .ok (.ireturn, 1) := by decide +kernel
set_option maxRecDepth 20000 in
theorem ggX4_readToError_X4_beginPart : GoodIn wsX4_readToError wsX4_beginPart := goodIn_r _ [7, 8, 9, 10, 43, 44, 45, 46, 47, 48, 49, 50, 51] (by decide +kernel) (by decide +kernel)
set_option maxRecDepth 20000 in
theorem gX4_readToError_X4_beginPart : GoodIn wsX4_readToError (wsV RX4 55 RX4 yX4_beginPart wsX4_beginPart) := goodIn_app (goodIn_of _ (by decide +kernel)) ggX4_readToError_X4_beginPart
set_option maxRecDepth 20000 in
theorem ggX4_readToError_X4_codeAt : GoodIn wsX4_readToError wsX4_codeAt := goodIn_r _ [14, 2, 15, 43, 44, 45, 46, 47, 48, 49, 50, 51] (by decide +kernel) (by decide +kernel)
set_option maxRecDepth 20000 in
theorem gX4_readToError_X4_codeAt : GoodIn wsX4_readToError (wsV RX4 58 RX4 yX4_codeAt wsX4_codeAt) := goodIn_app (goodIn_of _ (by decide +kernel)) ggX4_readToError_X4_codeAt
set_option maxRecDepth 20000 in
theorem ggX4_readToError_X4_accepts : GoodIn wsX4_readToError wsX4_accepts := goodIn_r _ [19, 8, 9, 10, 20, 21, 22, 23, 6, 24, 25, 26, 27, 28, 29, 30, 31, 32, 33, 34, 35, 36, 37, 38, 39, 40, 1, 41, 42, 3, 4, 5, 7, 43, 44, 45, 46, 47, 48, 49, 50, 51] (by decide +kernel) (by decide +kernel)
set_option maxRecDepth 20000 in
theorem gX4_readToError_X4_accepts : GoodIn wsX4_readToError (wsV RX4 61 RX4 yX4_accepts wsX4_accepts) := goodIn_app (goodIn_of _ (by decide +kernel)) ggX4_readToError_X4_accepts
theorem dX4_readToError_0 : decode cX4_readToError 0 = .ok (.aload_n 0, 1) := by decide +kernel
theorem dX4_readToError_1 : decode cX4_readToError 1 = .ok (.iconst 0, 1) := by decide +kernel
theorem dX4_readToError_2 : decode cX4_readToError 2 = .ok (.putfield 25, 3) := by decide +kernel
theorem dX4_readToError_5 : decode cX4_readToError 5 = .ok (.aload_n 0, 1) := by decide +kernel
theorem dX4_readToError_6 : decode cX4_readToError 6 = .ok (.invokevirtual 55, 3) := by decide +kernel
theorem dX4_readToError_9 : decode cX4_readToError 9 = .ok (.aload_n 0, 1) := by decide +kernel
theorem dX4_readToError_10 : decode cX4_readToError 10 = .ok (.getfield 15, 3) := by decide +kernel
theorem dX4_readToError_13 : decode cX4_readToError 13 = .ok (.istore_n 1, 1) := by decide +kernel
theorem dX4_readToError_14 : decode cX4_readToError 14 = .ok (.iconst 0, 1) := by decide +kernel
theorem dX4_readToError_15 : decode cX4_readToError 15 = .ok (.istore_n 2, 1) := by decide +kernel
theorem dX4_readToError_16 : decode cX4_readToError 16 = .ok (.iload_n 2, 1) := by decide +kernel
theorem dX4_readToError_17 : decode cX4_readToError 17 = .ok (.iload_n 1, 1) := by decide +kernel
theorem dX4_readToError_18 : decode cX4_readToError 18 = .ok (.if_icmp .ge 23, 3) := by decide +kernel
theorem dX4_readToError_21 : decode cX4_readToError 21 = .ok (.aload_n 0, 1) := by decide +kernel
theorem dX4_readToError_22 : decode cX4_readToError 22 = .ok (.aload_n 0, 1) := by decide +kernel
theorem dX4_readToError_23 : decode cX4_readToError 23 = .ok (.iload_n 2, 1) := by decide +kernel
theorem dX4_readToError_24 : decode cX4_readToError 24 = .ok (.invokevirtual 58, 3) := by decide +kernel
theorem dX4_readToError_27 : decode cX4_readToError 27 = .ok (.invokevirtual 61, 3) := by decide +kernel
theorem dX4_readToError_30 : decode cX4_readToError 30 = .ok (.ifCond .ne 5, 3) := by decide +kernel
theorem dX4_readToError_33 : decode cX4_readToError 33 = .ok (.iload_n 2, 1) := by decide +kernel
theorem dX4_readToError_34 : decode cX4_readToError 34 = .ok (.ireturn, 1) := by decide +kernel
theorem dX4_readToError_35 : decode cX4_readToError 35 = .ok (.iinc 2 1, 3) := by decide +kernel
theorem dX4_readToError_38 : decode cX4_readToError 38 = .ok (.goto (-22), 3) := by decide +kernel
theorem dX4_readToError_41 : decode cX4_readToError 41 = .ok (.iload_n 1, 1) := by decide +kernel
theorem dX4_readToError_42 : decode cX4_readToError 42 = .ok (.ireturn, 1) := by decide +kernel
set_option maxRecDepth 20000 in
theorem ggX4_accepts_X4_acceptsOfTimes : GoodIn wsX4_accepts wsX4_acceptsOfTimes := goodIn_r _ [9, 2, 10, 11, 12, 8, 13, 3, 33, 34, 35, 36, 37, 38, 39, 40, 41] (by decide +kernel) (by decide +kernel)
set_option maxRecDepth 20000 in
theorem gX4_accepts_X4_acceptsOfTimes : GoodIn wsX4_accepts (wsV RX4 65 RX4 yX4_acceptsOfTimes wsX4_acceptsOfTimes) := goodIn_app (goodIn_of _ (by decide +kernel)) ggX4_accepts_X4_acceptsOfTimes
set_option maxRecDepth 20000 in
theorem ggX4_accepts_X4_acceptsOfWeight : GoodIn wsX4_accepts wsX4_acceptsOfWeight := goodIn_r _ [17, 2, 3, 10, 11, 12, 8, 13, 33, 34, 35, 36, 37, 38, 39, 40, 41] (by decide +kernel) (by decide +kernel)
set_option maxRecDepth 20000 in
theorem gX4_accepts_X4_acceptsOfWeight : GoodIn wsX4_accepts (wsV RX4 68 RX4 yX4_acceptsOfWeight wsX4_acceptsOfWeight) := goodIn_app (goodIn_of _ (by decide +kernel)) ggX4_accepts_X4_acceptsOfWeight
set_option maxRecDepth 20000 in
theorem ggX4_accepts_X4_mayEndPart : GoodIn wsX4_accepts wsX4_mayEndPart := goodIn_r _ [21, 1, 3, 2, 33, 34, 35, 36, 37, 38, 39, 40, 41] (by decide +kernel) (by decide +kernel)
set_option maxRecDepth 20000 in
theorem gX4_accepts_X4_mayEndPart : GoodIn wsX4_accepts (wsV RX4 48 RX4 yX4_mayEndPart wsX4_mayEndPart) := goodIn_app (goodIn_of _ (by decide +kernel)) ggX4_accepts_X4_mayEndPart
set_option maxRecDepth 20000 in
theorem ggX4_accepts_X4_endPart : GoodIn wsX4_accepts wsX4_endPart := goodIn_r _ [25, 26, 27, 28, 1, 4, 3, 33, 34, 35, 36, 37, 38, 39, 40, 41] (by decide +kernel) (by decide +kernel)
set_option maxRecDepth 20000 in
theorem gX4_accepts_X4_endPart : GoodIn wsX4_accepts (wsV RX4 52 RX4 yX4_endPart wsX4_endPart) := goodIn_app (goodIn_of _ (by decide +kernel)) ggX4_accepts_X4_endPart
set_option maxRecDepth 20000 in
theorem ggX4_accepts_X4_beginPart : GoodIn wsX4_accepts wsX4_beginPart := goodIn_r _ [32, 1, 2, 3, 33, 34, 35, 36, 37, 38, 39, 40, 41] (by decide +kernel) (by decide +kernel)
set_option maxRecDepth 20000 in
theorem gX4_accepts_X4_beginPart : GoodIn wsX4_accepts (wsV RX4 55 RX4 yX4_beginPart wsX4_beginPart) := goodIn_app (goodIn_of _ (by decide +kernel)) ggX4_accepts_X4_beginPart
theorem dX4_accepts_0 : decode cX4_accepts 0 = .ok (.iload_n 1, 1) := by decide +kernel
theorem dX4_accepts_1 : decode cX4_accepts 1 = .ok (.bipush 48, 2) := by decide +kernel
theorem dX4_accepts_3 : decode cX4_accepts 3 = .ok (.if_icmp .lt 36, 3) := by decide +kernel
theorem dX4_accepts_6 : decode cX4_accepts 6 = .ok (.iload_n 1, 1) := by decide +kernel
theorem dX4_accepts_7 : decode cX4_accepts 7 = .ok (.bipush 57, 2) := by decide +kernel
theorem dX4_accepts_9 : decode cX4_accepts 9 = .ok (.if_icmp .gt 30, 3) := by decide +kernel
theorem dX4_accepts_12 : decode cX4_accepts 12 = .ok (.aload_n 0, 1) := by decide +kernel
theorem dX4_accepts_13 : decode cX4_accepts 13 = .ok (.getfield 28, 3) := by decide +kernel
theorem dX4_accepts_16 : decode cX4_accepts 16 = .ok (.ifCond .eq 14, 3) := by decide +kernel
theorem dX4_accepts_19 : decode cX4_accepts 19 = .ok (.aload_n 0, 1) := by decide +kernel
theorem dX4_accepts_20 : decode cX4_accepts 20 = .ok (.iload_n 1, 1) := by decide +kernel
theorem dX4_accepts_21 : decode cX4_accepts 21 = .ok (.bipush 48, 2) := by decide +kernel
theorem dX4_accepts_23 : decode cX4_accepts 23 = .ok (.isub, 1) := by decide +kernel
theorem dX4_accepts_24 : decode cX4_accepts 24 = .ok (.invokevirtual 65, 3) := by decide +kernel
theorem dX4_accepts_27 : decode cX4_accepts 27 = .ok (.goto 11, 3) := by decide +kernel
theorem dX4_accepts_30 : decode cX4_accepts 30 = .ok (.aload_n 0, 1) := by decide +kernel
theorem dX4_accepts_31 : decode cX4_accepts 31 = .ok (.iload_n 1, 1) := by decide +kernel
theorem dX4_accepts_32 : decode cX4_accepts 32 = .ok (.bipush 48, 2) := by decide +kernel
theorem dX4_accepts_34 : decode cX4_accepts 34 = .ok (.isub, 1) := by decide +kernel
theorem dX4_accepts_35 : decode cX4_accepts 35 = .ok (.invokevirtual 68, 3) := by decide +kernel
theorem dX4_accepts_38 : decode cX4_accepts 38 = .ok (.ireturn, 1) := by decide +kernel
theorem dX4_accepts_39 : decode cX4_accepts 39 = .ok (.iload_n 1, 1) := by decide +kernel
theorem dX4_accepts_40 : decode cX4_accepts 40 = .ok (.bipush 42, 2) := by decide +kernel
theorem dX4_accepts_42 : decode cX4_accepts 42 = .ok (.if_icmp .ne 42, 3) := by decide +kernel
theorem dX4_accepts_45 : decode cX4_accepts 45 = .ok (.aload_n 0, 1) := by decide +kernel
theorem dX4_accepts_46 : decode cX4_accepts 46 = .ok (.getfield 28, 3) := by decide +kernel
theorem dX4_accepts_49 : decode cX4_accepts 49 = .ok (.ifCond .ne 35, 3) := by decide +kernel
theorem dX4_accepts_52 : decode cX4_accepts 52 = .ok (.aload_n 0, 1) := by decide +kernel
theorem dX4_accepts_53 : decode cX4_accepts 53 = .ok (.getfield 32, 3) := by decide +kernel
theorem dX4_accepts_56 : decode cX4_accepts 56 = .ok (.ifCond .le 28, 3) := by decide +kernel
theorem dX4_accepts_59 : decode cX4_accepts 59 = .ok (.aload_n 0, 1) := by decide +kernel
theorem dX4_accepts_60 : decode cX4_accepts 60 = .ok (.aload_n 0, 1) := by decide +kernel
theorem dX4_accepts_61 : decode cX4_accepts 61 = .ok (.getfield 35, 3) := by decide +kernel
theorem dX4_accepts_64 : decode cX4_accepts 64 = .ok (.putfield 38, 3) := by decide +kernel
theorem dX4_accepts_67 : decode cX4_accepts 67 = .ok (.aload_n 0, 1) := by decide +kernel
theorem dX4_accepts_68 : decode cX4_accepts 68 = .ok (.iconst 1, 1) := by decide +kernel
theorem dX4_accepts_69 : decode cX4_accepts 69 = .ok (.putfield 28, 3) := by decide +kernel
theorem dX4_accepts_72 : decode cX4_accepts 72 = .ok (.aload_n 0, 1) := by decide +kernel
theorem dX4_accepts_73 : decode cX4_accepts 73 = .ok (.iconst 0, 1) := by decide +kernel
theorem dX4_accepts_74 : decode cX4_accepts 74 = .ok (.putfield 32, 3) := by decide +kernel
theorem dX4_accepts_77 : decode cX4_accepts 77 = .ok (.aload_n 0, 1) := by decide +kernel
theorem dX4_accepts_78 : decode cX4_accepts 78 = .ok (.iconst 0, 1) := by decide +kernel
theorem dX4_accepts_79 : decode cX4_accepts 79 = .ok (.putfield 35, 3) := by decide +kernel
theorem dX4_accepts_82 : decode cX4_accepts 82 = .ok (.iconst 1, 1) := by decide +kernel
theorem dX4_accepts_83 : decode cX4_accepts 83 = .ok (.ireturn, 1) := by decide +kernel
theorem dX4_accepts_84 : decode cX4_accepts 84 = .ok (.iload_n 1, 1) := by decide +kernel
theorem dX4_accepts_85 : decode cX4_accepts 85 = .ok (.bipush 44, 2) := by decide +kernel
theorem dX4_accepts_87 : decode cX4_accepts 87 = .ok (.if_icmp .ne 20, 3) := by decide +kernel
theorem dX4_accepts_90 : decode cX4_accepts 90 = .ok (.aload_n 0, 1) := by decide +kernel
theorem dX4_accepts_91 : decode cX4_accepts 91 = .ok (.invokevirtual 48, 3) := by decide +kernel
theorem dX4_accepts_94 : decode cX4_accepts 94 = .ok (.ifCond .eq 13, 3) := by decide +kernel
theorem dX4_accepts_97 : decode cX4_accepts 97 = .ok (.aload_n 0, 1) := by decide +kernel
theorem dX4_accepts_98 : decode cX4_accepts 98 = .ok (.invokevirtual 52, 3) := by decide +kernel
theorem dX4_accepts_101 : decode cX4_accepts 101 = .ok (.aload_n 0, 1) := by decide +kernel
theorem dX4_accepts_102 : decode cX4_accepts 102 = .ok (.invokevirtual 55, 3) := by decide +kernel
theorem dX4_accepts_105 : decode cX4_accepts 105 = .ok (.iconst 1, 1) := by decide +kernel
theorem dX4_accepts_106 : decode cX4_accepts 106 = .ok (.ireturn, 1) := by decide +kernel
theorem dX4_accepts_107 : decode cX4_accepts 107 = .ok (.iconst 0, 1) := by decide +kernel
theorem dX4_accepts_108 : decode cX4_accepts 108 = .ok (.ireturn, 1) := by decide +kernel
set_option maxRecDepth 20000 in
theorem ggX4_acceptsOfWeight_X4_takesDigit : GoodIn wsX4_acceptsOfWeight wsX4_takesDigit := goodIn_r _ [7, 2, 1, 8, 9, 10, 11, 12, 13, 14, 15, 16] (by decide +kernel) (by decide +kernel)
set_option maxRecDepth 20000 in
theorem gX4_acceptsOfWeight_X4_takesDigit : GoodIn wsX4_acceptsOfWeight (wsV RX4 71 RX4 yX4_takesDigit wsX4_takesDigit) := goodIn_app (goodIn_of _ (by decide +kernel)) ggX4_acceptsOfWeight_X4_takesDigit
theorem dX4_acceptsOfWeight_0 : decode cX4_acceptsOfWeight 0 = .ok (.aload_n 0, 1) := by decide +kernel
theorem dX4_acceptsOfWeight_1 : decode cX4_acceptsOfWeight 1 = .ok (.getfield 32, 3) := by decide +kernel
theorem dX4_acceptsOfWeight_4 : decode cX4_acceptsOfWeight 4 = .ok (.ifCond .le 14, 3) := by decide +kernel
theorem dX4_acceptsOfWeight_7 : decode cX4_acceptsOfWeight 7 = .ok (.aload_n 0, 1) := by decide +kernel
theorem dX4_acceptsOfWeight_8 : decode cX4_acceptsOfWeight 8 = .ok (.getfield 35, 3) := by decide +kernel
theorem dX4_acceptsOfWeight_11 : decode cX4_acceptsOfWeight 11 = .ok (.ifCond .ne 7, 3) := by decide +kernel
theorem dX4_acceptsOfWeight_14 : decode cX4_acceptsOfWeight 14 = .ok (.iconst 1, 1) := by decide +kernel
theorem dX4_acceptsOfWeight_15 : decode cX4_acceptsOfWeight 15 = .ok (.goto 4, 3) := by decide +kernel
theorem dX4_acceptsOfWeight_18 : decode cX4_acceptsOfWeight 18 = .ok (.iconst 0, 1) := by decide +kernel
theorem dX4_acceptsOfWeight_19 : decode cX4_acceptsOfWeight 19 = .ok (.istore_n 2, 1) := by decide +kernel
theorem dX4_acceptsOfWeight_20 : decode cX4_acceptsOfWeight 20 = .ok (.iload_n 2, 1) := by decide +kernel
theorem dX4_acceptsOfWeight_21 : decode cX4_acceptsOfWeight 21 = .ok (.ifCond .ne 18, 3) := by decide +kernel
theorem dX4_acceptsOfWeight_24 : decode cX4_acceptsOfWeight 24 = .ok (.aload_n 0, 1) := by decide +kernel
theorem dX4_acceptsOfWeight_25 : decode cX4_acceptsOfWeight 25 = .ok (.iload_n 1, 1) := by decide +kernel
theorem dX4_acceptsOfWeight_26 : decode cX4_acceptsOfWeight 26 = .ok (.sipush 999, 3) := by decide +kernel
theorem dX4_acceptsOfWeight_29 : decode cX4_acceptsOfWeight 29 = .ok (.invokevirtual 71, 3) := by decide +kernel
theorem dX4_acceptsOfWeight_32 : decode cX4_acceptsOfWeight 32 = .ok (.ifCond .eq 7, 3) := by decide +kernel
theorem dX4_acceptsOfWeight_35 : decode cX4_acceptsOfWeight 35 = .ok (.iconst 1, 1) := by decide +kernel
theorem dX4_acceptsOfWeight_36 : decode cX4_acceptsOfWeight 36 = .ok (.goto 4, 3) := by decide +kernel
theorem dX4_acceptsOfWeight_39 : decode cX4_acceptsOfWeight 39 = .ok (.iconst 0, 1) := by decide +kernel
theorem dX4_acceptsOfWeight_40 : decode cX4_acceptsOfWeight 40 = .ok (.ireturn, 1) := by decide +kernel
set_option maxRecDepth 20000 in
theorem ggX4_acceptsOfTimes_X4_takesDigit : GoodIn wsX4_acceptsOfTimes wsX4_takesDigit := goodIn_r _ [6, 7, 1, 8, 9, 10, 11, 12, 13, 14, 15, 16] (by decide +kernel) (by decide +kernel)
set_option maxRecDepth 20000 in
theorem gX4_acceptsOfTimes_X4_takesDigit : GoodIn wsX4_acceptsOfTimes (wsV RX4 71 RX4 yX4_takesDigit wsX4_takesDigit) := goodIn_app (goodIn_of _ (by decide +kernel)) ggX4_acceptsOfTimes_X4_takesDigit
theorem dX4_acceptsOfTimes_0 : decode cX4_acceptsOfTimes 0 = .ok (.aload_n 0, 1) := by decide +kernel
theorem dX4_acceptsOfTimes_1 : decode cX4_acceptsOfTimes 1 = .ok (.getfield 32, 3) := by decide +kernel
theorem dX4_acceptsOfTimes_4 : decode cX4_acceptsOfTimes 4 = .ok (.ifCond .ne 11, 3) := by decide +kernel
theorem dX4_acceptsOfTimes_7 : decode cX4_acceptsOfTimes 7 = .ok (.iload_n 1, 1) := by decide +kernel
theorem dX4_acceptsOfTimes_8 : decode cX4_acceptsOfTimes 8 = .ok (.ifCond .ne 7, 3) := by decide +kernel
theorem dX4_acceptsOfTimes_11 : decode cX4_acceptsOfTimes 11 = .ok (.iconst 1, 1) := by decide +kernel
theorem dX4_acceptsOfTimes_12 : decode cX4_acceptsOfTimes 12 = .ok (.goto 4, 3) := by decide +kernel
theorem dX4_acceptsOfTimes_15 : decode cX4_acceptsOfTimes 15 = .ok (.iconst 0, 1) := by decide +kernel
theorem dX4_acceptsOfTimes_16 : decode cX4_acceptsOfTimes 16 = .ok (.istore_n 2, 1) := by decide +kernel
theorem dX4_acceptsOfTimes_17 : decode cX4_acceptsOfTimes 17 = .ok (.iload_n 2, 1) := by decide +kernel
theorem dX4_acceptsOfTimes_18 : decode cX4_acceptsOfTimes 18 = .ok (.ifCond .ne 17, 3) := by decide +kernel
theorem dX4_acceptsOfTimes_21 : decode cX4_acceptsOfTimes 21 = .ok (.aload_n 0, 1) := by decide +kernel
theorem dX4_acceptsOfTimes_22 : decode cX4_acceptsOfTimes 22 = .ok (.iload_n 1, 1) := by decide +kernel
theorem dX4_acceptsOfTimes_23 : decode cX4_acceptsOfTimes 23 = .ok (.bipush 40, 2) := by decide +kernel
theorem dX4_acceptsOfTimes_25 : decode cX4_acceptsOfTimes 25 = .ok (.invokevirtual 71, 3) := by decide +kernel
theorem dX4_acceptsOfTimes_28 : decode cX4_acceptsOfTimes 28 = .ok (.ifCond .eq 7, 3) := by decide +kernel
theorem dX4_acceptsOfTimes_31 : decode cX4_acceptsOfTimes 31 = .ok (.iconst 1, 1) := by decide +kernel
theorem dX4_acceptsOfTimes_32 : decode cX4_acceptsOfTimes 32 = .ok (.goto 4, 3) := by decide +kernel
theorem dX4_acceptsOfTimes_35 : decode cX4_acceptsOfTimes 35 = .ok (.iconst 0, 1) := by decide +kernel
theorem dX4_acceptsOfTimes_36 : decode cX4_acceptsOfTimes 36 = .ok (.ireturn, 1) := by decide +kernel
theorem dX4_takesDigit_0 : decode cX4_takesDigit 0 = .ok (.bipush 10, 2) := by decide +kernel
theorem dX4_takesDigit_2 : decode cX4_takesDigit 2 = .ok (.aload_n 0, 1) := by decide +kernel
theorem dX4_takesDigit_3 : decode cX4_takesDigit 3 = .ok (.getfield 35, 3) := by decide +kernel
theorem dX4_takesDigit_6 : decode cX4_takesDigit 6 = .ok (.imul, 1) := by decide +kernel
theorem dX4_takesDigit_7 : decode cX4_takesDigit 7 = .ok (.iload_n 1, 1) := by decide +kernel
theorem dX4_takesDigit_8 : decode cX4_takesDigit 8 = .ok (.iadd, 1) := by decide +kernel
theorem dX4_takesDigit_9 : decode cX4_takesDigit 9 = .ok (.istore_n 3, 1) := by decide +kernel
theorem dX4_takesDigit_10 : decode cX4_takesDigit 10 = .ok (.iload_n 3, 1) := by decide +kernel
theorem dX4_takesDigit_11 : decode cX4_takesDigit 11 = .ok (.iload_n 2, 1) := by decide +kernel
theorem dX4_takesDigit_12 : decode cX4_takesDigit 12 = .ok (.if_icmp .le 5, 3) := by decide +kernel
theorem dX4_takesDigit_15 : decode cX4_takesDigit 15 = .ok (.iconst 0, 1) := by decide +kernel
theorem dX4_takesDigit_16 : decode cX4_takesDigit 16 = .ok (.ireturn, 1) := by decide +kernel
theorem dX4_takesDigit_17 : decode cX4_takesDigit 17 = .ok (.aload_n 0, 1) := by decide +kernel
theorem dX4_takesDigit_18 : decode cX4_takesDigit 18 = .ok (.iload_n 3, 1) := by decide +kernel
theorem dX4_takesDigit_19 : decode cX4_takesDigit 19 = .ok (.putfield 35, 3) := by decide +kernel
theorem dX4_takesDigit_22 : decode cX4_takesDigit 22 = .ok (.aload_n 0, 1) := by decide +kernel
theorem dX4_takesDigit_23 : decode cX4_takesDigit 23 = .ok (.dup, 1) := by decide +kernel
theorem dX4_takesDigit_24 : decode cX4_takesDigit 24 = .ok (.getfield 32, 3) := by decide +kernel
theorem dX4_takesDigit_27 : decode cX4_takesDigit 27 = .ok (.iconst 1, 1) := by decide +kernel
theorem dX4_takesDigit_28 : decode cX4_takesDigit 28 = .ok (.iadd, 1) := by decide +kernel
theorem dX4_takesDigit_29 : decode cX4_takesDigit 29 = .ok (.putfield 32, 3) := by decide +kernel
theorem dX4_takesDigit_32 : decode cX4_takesDigit 32 = .ok (.iconst 1, 1) := by decide +kernel
theorem dX4_takesDigit_33 : decode cX4_takesDigit 33 = .ok (.ireturn, 1) := by decide +kernel
theorem dX4_mayEndPart_0 : decode cX4_mayEndPart 0 = .ok (.aload_n 0, 1) := by decide +kernel
theorem dX4_mayEndPart_1 : decode cX4_mayEndPart 1 = .ok (.getfield 28, 3) := by decide +kernel
theorem dX4_mayEndPart_4 : decode cX4_mayEndPart 4 = .ok (.ifCond .eq 19, 3) := by decide +kernel
theorem dX4_mayEndPart_7 : decode cX4_mayEndPart 7 = .ok (.aload_n 0, 1) := by decide +kernel
theorem dX4_mayEndPart_8 : decode cX4_mayEndPart 8 = .ok (.getfield 35, 3) := by decide +kernel
theorem dX4_mayEndPart_11 : decode cX4_mayEndPart 11 = .ok (.iconst 2, 1) := by decide +kernel
theorem dX4_mayEndPart_12 : decode cX4_mayEndPart 12 = .ok (.if_icmp .lt 7, 3) := by decide +kernel
theorem dX4_mayEndPart_15 : decode cX4_mayEndPart 15 = .ok (.iconst 1, 1) := by decide +kernel
theorem dX4_mayEndPart_16 : decode cX4_mayEndPart 16 = .ok (.goto 19, 3) := by decide +kernel
theorem dX4_mayEndPart_19 : decode cX4_mayEndPart 19 = .ok (.iconst 0, 1) := by decide +kernel
theorem dX4_mayEndPart_20 : decode cX4_mayEndPart 20 = .ok (.goto 15, 3) := by decide +kernel
theorem dX4_mayEndPart_23 : decode cX4_mayEndPart 23 = .ok (.aload_n 0, 1) := by decide +kernel
theorem dX4_mayEndPart_24 : decode cX4_mayEndPart 24 = .ok (.getfield 32, 3) := by decide +kernel
theorem dX4_mayEndPart_27 : decode cX4_mayEndPart 27 = .ok (.ifCond .le 7, 3) := by decide +kernel
theorem dX4_mayEndPart_30 : decode cX4_mayEndPart 30 = .ok (.iconst 1, 1) := by decide +kernel
theorem dX4_mayEndPart_31 : decode cX4_mayEndPart 31 = .ok (.goto 4, 3) := by decide +kernel
theorem dX4_mayEndPart_34 : decode cX4_mayEndPart 34 = .ok (.iconst 0, 1) := by decide +kernel
theorem dX4_mayEndPart_35 : decode cX4_mayEndPart 35 = .ok (.ireturn, 1) := by decide +kernel
theorem dX4_beginPart_0 : decode cX4_beginPart 0 = .ok (.aload_n 0, 1) := by decide +kernel
theorem dX4_beginPart_1 : decode cX4_beginPart 1 = .ok (.iconst 0, 1) := by decide +kernel
theorem dX4_beginPart_2 : decode cX4_beginPart 2 = .ok (.putfield 28, 3) := by decide +kernel
theorem dX4_beginPart_5 : decode cX4_beginPart 5 = .ok (.aload_n 0, 1) := by decide +kernel
theorem dX4_beginPart_6 : decode cX4_beginPart 6 = .ok (.iconst 0, 1) := by decide +kernel
theorem dX4_beginPart_7 : decode cX4_beginPart 7 = .ok (.putfield 32, 3) := by decide +kernel
theorem dX4_beginPart_10 : decode cX4_beginPart 10 = .ok (.aload_n 0, 1) := by decide +kernel
theorem dX4_beginPart_11 : decode cX4_beginPart 11 = .ok (.iconst 0, 1) := by decide +kernel
theorem dX4_beginPart_12 : decode cX4_beginPart 12 = .ok (.putfield 35, 3) := by decide +kernel
theorem dX4_beginPart_15 : decode cX4_beginPart 15 = .ok (.return_, 1) := by decide +kernel
theorem dX4_endPart_0 : decode cX4_endPart 0 = .ok (.aload_n 0, 1) := by decide +kernel
theorem dX4_endPart_1 : decode cX4_endPart 1 = .ok (.getfield 25, 3) := by decide +kernel
theorem dX4_endPart_4 : decode cX4_endPart 4 = .ok (.ifCond .lt 88, 3) := by decide +kernel
theorem dX4_endPart_7 : decode cX4_endPart 7 = .ok (.aload_n 0, 1) := by decide +kernel
theorem dX4_endPart_8 : decode cX4_endPart 8 = .ok (.getfield 25, 3) := by decide +kernel
theorem dX4_endPart_11 : decode cX4_endPart 11 = .ok (.aload_n 0, 1) := by decide +kernel
theorem dX4_endPart_12 : decode cX4_endPart 12 = .ok (.getfield 19, 3) := by decide +kernel
theorem dX4_endPart_15 : decode cX4_endPart 15 = .ok (.arraylength, 1) := by decide +kernel
theorem dX4_endPart_16 : decode cX4_endPart 16 = .ok (.if_icmp .ge 76, 3) := by decide +kernel
theorem dX4_endPart_19 : decode cX4_endPart 19 = .ok (.aload_n 0, 1) := by decide +kernel
theorem dX4_endPart_20 : decode cX4_endPart 20 = .ok (.getfield 25, 3) := by decide +kernel
theorem dX4_endPart_23 : decode cX4_endPart 23 = .ok (.aload_n 0, 1) := by decide +kernel
theorem dX4_endPart_24 : decode cX4_endPart 24 = .ok (.getfield 22, 3) := by decide +kernel
theorem dX4_endPart_27 : decode cX4_endPart 27 = .ok (.arraylength, 1) := by decide +kernel
theorem dX4_endPart_28 : decode cX4_endPart 28 = .ok (.if_icmp .ge 64, 3) := by decide +kernel
theorem dX4_endPart_31 : decode cX4_endPart 31 = .ok (.aload_n 0, 1) := by decide +kernel
theorem dX4_endPart_32 : decode cX4_endPart 32 = .ok (.getfield 19, 3) := by decide +kernel
theorem dX4_endPart_35 : decode cX4_endPart 35 = .ok (.aload_n 0, 1) := by decide +kernel
theorem dX4_endPart_36 : decode cX4_endPart 36 = .ok (.getfield 25, 3) := by decide +kernel
theorem dX4_endPart_39 : decode cX4_endPart 39 = .ok (.aload_n 0, 1) := by decide +kernel
theorem dX4_endPart_40 : decode cX4_endPart 40 = .ok (.getfield 28, 3) := by decide +kernel
theorem dX4_endPart_43 : decode cX4_endPart 43 = .ok (.ifCond .eq 10, 3) := by decide +kernel
theorem dX4_endPart_46 : decode cX4_endPart 46 = .ok (.aload_n 0, 1) := by decide +kernel
theorem dX4_endPart_47 : decode cX4_endPart 47 = .ok (.getfield 38, 3) := by decide +kernel
theorem dX4_endPart_50 : decode cX4_endPart 50 = .ok (.goto 7, 3) := by decide +kernel
theorem dX4_endPart_53 : decode cX4_endPart 53 = .ok (.aload_n 0, 1) := by decide +kernel
theorem dX4_endPart_54 : decode cX4_endPart 54 = .ok (.getfield 35, 3) := by decide +kernel
theorem dX4_endPart_57 : decode cX4_endPart 57 = .ok (.iastore, 1) := by decide +kernel
theorem dX4_endPart_58 : decode cX4_endPart 58 = .ok (.aload_n 0, 1) := by decide +kernel
theorem dX4_endPart_59 : decode cX4_endPart 59 = .ok (.getfield 22, 3) := by decide +kernel
theorem dX4_endPart_62 : decode cX4_endPart 62 = .ok (.aload_n 0, 1) := by decide +kernel
theorem dX4_endPart_63 : decode cX4_endPart 63 = .ok (.getfield 25, 3) := by decide +kernel
theorem dX4_endPart_66 : decode cX4_endPart 66 = .ok (.aload_n 0, 1) := by decide +kernel
theorem dX4_endPart_67 : decode cX4_endPart 67 = .ok (.getfield 28, 3) := by decide +kernel
theorem dX4_endPart_70 : decode cX4_endPart 70 = .ok (.ifCond .eq 10, 3) := by decide +kernel
theorem dX4_endPart_73 : decode cX4_endPart 73 = .ok (.aload_n 0, 1) := by decide +kernel
theorem dX4_endPart_74 : decode cX4_endPart 74 = .ok (.getfield 35, 3) := by decide +kernel
theorem dX4_endPart_77 : decode cX4_endPart 77 = .ok (.goto 4, 3) := by decide +kernel
theorem dX4_endPart_80 : decode cX4_endPart 80 = .ok (.iconst 1, 1) := by decide +kernel
theorem dX4_endPart_81 : decode cX4_endPart 81 = .ok (.iastore, 1) := by decide +kernel
theorem dX4_endPart_82 : decode cX4_endPart 82 = .ok (.aload_n 0, 1) := by decide +kernel
theorem dX4_endPart_83 : decode cX4_endPart 83 = .ok (.dup, 1) := by decide +kernel
theorem dX4_endPart_84 : decode cX4_endPart 84 = .ok (.getfield 25, 3) := by decide +kernel
theorem dX4_endPart_87 : decode cX4_endPart 87 = .ok (.iconst 1, 1) := by decide +kernel
theorem dX4_endPart_88 : decode cX4_endPart 88 = .ok (.iadd, 1) := by decide +kernel
theorem dX4_endPart_89 : decode cX4_endPart 89 = .ok (.putfield 25, 3) := by decide +kernel
theorem dX4_endPart_92 : decode cX4_endPart 92 = .ok (.return_, 1) := by decide +kernel
