set_option maxRecDepth 20000 in
theorem ggX5_init_X2_init : GoodIn wsX5_init wsX2_init := goodIn_r _ [20, 21, 2, 3, 22, 23, 24, 25, 26, 27, 28, 29, 30, 31, 32, 33, 34, 35, 36, 37, 38, 39, 40, 41, 42, 43, 44, 45, 46, 47, 48, 49, 50, 101, 102, 71, 72, 73, 74, 75, 76, 77, 78, 79, 80, 81, 82, 103, 104] (by decide +kernel) (by decide +kernel)
set_option maxRecDepth 20000 in
theorem gX5_init_X2_init_n9 : GoodIn wsX5_init (wsX2_init) := ggX5_init_X2_init
set_option maxRecDepth 20000 in
theorem ggX5_init_X3_init : GoodIn wsX5_init wsX3_init := goodIn_r _ [53, 54, 2, 3, 55, 56, 57, 58, 5, 6, 19, 20, 21, 22, 23, 24, 25, 26, 27, 28, 29, 30, 31, 32, 33, 34, 35, 36, 37, 38, 39, 40, 41, 42, 43, 44, 45, 46, 47, 48, 49, 50, 89, 90, 91, 71, 72, 73, 74, 75, 76, 77, 78, 79, 80, 81, 82, 101, 102, 103, 104] (by decide +kernel) (by decide +kernel)
set_option maxRecDepth 20000 in
theorem gX5_init_X3_init : GoodIn wsX5_init (wsX3_init) := ggX5_init_X3_init
set_option maxRecDepth 20000 in
theorem ggX5_init_X4_init : GoodIn wsX5_init wsX4_init := goodIn_r _ [60, 61, 2, 3, 30, 62, 63, 64, 65, 66, 67, 68, 69, 70, 92, 93, 94, 95, 96, 97, 98, 99, 100] (by decide +kernel) (by decide +kernel)
set_option maxRecDepth 20000 in
theorem gX5_init_X4_init_n31 : GoodIn wsX5_init (wsX4_init) := ggX5_init_X4_init
theorem dX5_init_0 : decode cX5_init 0 = .ok (.aload_n 0, 1) := by decide +kernel
theorem dX5_init_1 : decode cX5_init 1 = .ok (.invokespecial 1, 3) := by decide +kernel
theorem dX5_init_4 : decode cX5_init 4 = .ok (.aload_n 0, 1) := by decide +kernel
theorem dX5_init_5 : decode cX5_init 5 = .ok (.new 7, 3) := by decide +kernel
theorem dX5_init_8 : decode cX5_init 8 = .ok (.dup, 1) := by decide +kernel
theorem dX5_init_9 : decode cX5_init 9 = .ok (.invokespecial 9, 3) := by decide +kernel
theorem dX5_init_12 : decode cX5_init 12 = .ok (.putfield 10, 3) := by decide +kernel
theorem dX5_init_15 : decode cX5_init 15 = .ok (.aload_n 0, 1) := by decide +kernel
theorem dX5_init_16 : decode cX5_init 16 = .ok (.new 7, 3) := by decide +kernel
theorem dX5_init_19 : decode cX5_init 19 = .ok (.dup, 1) := by decide +kernel
theorem dX5_init_20 : decode cX5_init 20 = .ok (.invokespecial 9, 3) := by decide +kernel
theorem dX5_init_23 : decode cX5_init 23 = .ok (.putfield 16, 3) := by decide +kernel
theorem dX5_init_26 : decode cX5_init 26 = .ok (.aload_n 0, 1) := by decide +kernel
theorem dX5_init_27 : decode cX5_init 27 = .ok (.new 7, 3) := by decide +kernel
theorem dX5_init_30 : decode cX5_init 30 = .ok (.dup, 1) := by decide +kernel
theorem dX5_init_31 : decode cX5_init 31 = .ok (.invokespecial 9, 3) := by decide +kernel
theorem dX5_init_34 : decode cX5_init 34 = .ok (.putfield 19, 3) := by decide +kernel
theorem dX5_init_37 : decode cX5_init 37 = .ok (.aload_n 0, 1) := by decide +kernel
theorem dX5_init_38 : decode cX5_init 38 = .ok (.new 22, 3) := by decide +kernel
theorem dX5_init_41 : decode cX5_init 41 = .ok (.dup, 1) := by decide +kernel
theorem dX5_init_42 : decode cX5_init 42 = .ok (.invokespecial 24, 3) := by decide +kernel
theorem dX5_init_45 : decode cX5_init 45 = .ok (.putfield 25, 3) := by decide +kernel
theorem dX5_init_48 : decode cX5_init 48 = .ok (.aload_n 0, 1) := by decide +kernel
theorem dX5_init_49 : decode cX5_init 49 = .ok (.new 29, 3) := by decide +kernel
theorem dX5_init_52 : decode cX5_init 52 = .ok (.dup, 1) := by decide +kernel
theorem dX5_init_53 : decode cX5_init 53 = .ok (.invokespecial 31, 3) := by decide +kernel
theorem dX5_init_56 : decode cX5_init 56 = .ok (.putfield 32, 3) := by decide +kernel
theorem dX5_init_59 : decode cX5_init 59 = .ok (.aload_n 0, 1) := by decide +kernel
theorem dX5_init_60 : decode cX5_init 60 = .ok (.iconst 0, 1) := by decide +kernel
theorem dX5_init_61 : decode cX5_init 61 = .ok (.putfield 36, 3) := by decide +kernel
theorem dX5_init_64 : decode cX5_init 64 = .ok (.return_, 1) := by decide +kernel
set_option maxRecDepth 20000 in
theorem ggX5_fill_X5_isCan : GoodIn wsX5_fill wsX5_isCan := goodIn_r _ [14] (by decide +kernel) (by decide +kernel)
set_option maxRecDepth 20000 in
theorem gX5_fill_X5_isCan : GoodIn wsX5_fill (va_wsS RX5 40 yX5_isCan wsX5_isCan) := goodIn_app (goodIn_of _ (by decide +kernel)) ggX5_fill_X5_isCan
set_option maxRecDepth 20000 in
theorem ggX5_fill_X4_readWhole : GoodIn wsX5_fill wsX4_readWhole := goodIn_r _ [19, 20, 21, 22, 23, 18, 24, 25, 26, 27, 28, 29, 30, 31, 32, 33, 34, 35, 36, 37, 38, 39, 40, 41, 42, 43, 44, 45, 46, 47, 48, 49, 50, 51, 52, 53, 54, 55, 56, 57, 58, 59, 60, 61, 62, 63, 64, 172, 173, 174, 175, 176, 177, 178, 179, 180] (by decide +kernel) (by decide +kernel)
set_option maxRecDepth 20000 in
theorem gX5_fill_X4_readWhole : GoodIn wsX5_fill (wsV RX5 51 RX4 yX4_readWhole wsX4_readWhole) := goodIn_app (goodIn_of _ (by decide +kernel)) ggX5_fill_X4_readWhole
set_option maxRecDepth 20000 in
theorem ggX5_fill_X0_sizeOf : GoodIn wsX5_fill wsX0_sizeOf := goodIn_r _ [69, 70, 181, 182] (by decide +kernel) (by decide +kernel)
set_option maxRecDepth 20000 in
theorem gX5_fill_X0_sizeOf : GoodIn wsX5_fill (wsV RX5 64 RX0 yX0_sizeOf wsX0_sizeOf) := goodIn_app (goodIn_of _ (by decide +kernel)) ggX5_fill_X0_sizeOf
set_option maxRecDepth 20000 in
theorem ggX5_fill_X4_metresTold : GoodIn wsX5_fill wsX4_metresTold := goodIn_r _ [74, 25, 75, 76, 77, 18, 78, 64, 172, 173, 174, 175, 176, 177, 178, 179, 180] (by decide +kernel) (by decide +kernel)
set_option maxRecDepth 20000 in
theorem gX5_fill_X4_metresTold : GoodIn wsX5_fill (wsV RX5 70 RX4 yX4_metresTold wsX4_metresTold) := goodIn_app (goodIn_of _ (by decide +kernel)) ggX5_fill_X4_metresTold
set_option maxRecDepth 20000 in
theorem ggX5_fill_X3_save : GoodIn wsX5_fill wsX3_save := goodIn_r _ [83, 84, 85, 86, 87, 88, 82, 89, 90, 91, 92, 93, 94, 95, 96, 97, 98, 99, 100, 101, 102, 103, 104, 105, 106, 107, 108, 109, 110, 111, 112, 113, 114, 115, 116, 117, 118, 68, 119, 120, 121, 122, 70, 123, 124, 125, 126, 127, 128, 129, 130, 131, 183, 184, 185, 160, 161, 162, 163, 164, 165, 166, 167, 168, 169, 170, 171, 181, 182, 186, 187] (by decide +kernel) (by decide +kernel)
set_option maxRecDepth 20000 in
theorem gX5_fill_X3_save : GoodIn wsX5_fill (wsV RX5 79 RX3 yX3_save wsX3_save) := goodIn_app (goodIn_of _ (by decide +kernel)) ggX5_fill_X3_save
set_option maxRecDepth 20000 in
theorem ggX5_fill_X4_partCount : GoodIn wsX5_fill wsX4_partCount := goodIn_r _ [135, 25, 172, 173, 174, 175, 176, 177, 178, 179, 180] (by decide +kernel) (by decide +kernel)
set_option maxRecDepth 20000 in
theorem gX5_fill_X4_partCount : GoodIn wsX5_fill (wsV RX5 83 RX4 yX4_partCount wsX4_partCount) := goodIn_app (goodIn_of _ (by decide +kernel)) ggX5_fill_X4_partCount
set_option maxRecDepth 20000 in
theorem ggX5_fill_X4_partWeight : GoodIn wsX5_fill wsX4_partWeight := goodIn_r _ [139, 63, 172, 173, 174, 175, 176, 177, 178, 179, 180] (by decide +kernel) (by decide +kernel)
set_option maxRecDepth 20000 in
theorem gX5_fill_X4_partWeight : GoodIn wsX5_fill (wsV RX5 86 RX4 yX4_partWeight wsX4_partWeight) := goodIn_app (goodIn_of _ (by decide +kernel)) ggX5_fill_X4_partWeight
set_option maxRecDepth 20000 in
theorem ggX5_fill_X4_partTimes : GoodIn wsX5_fill wsX4_partTimes := goodIn_r _ [78, 64, 172, 173, 174, 175, 176, 177, 178, 179, 180] (by decide +kernel) (by decide +kernel)
set_option maxRecDepth 20000 in
theorem gX5_fill_X4_partTimes : GoodIn wsX5_fill (wsV RX5 89 RX4 yX4_partTimes wsX4_partTimes) := goodIn_app (goodIn_of _ (by decide +kernel)) ggX5_fill_X4_partTimes
set_option maxRecDepth 20000 in
theorem ggX5_fill_X2_pour : GoodIn wsX5_fill wsX2_pour := goodIn_r _ [144, 96, 114, 145, 146, 147, 68, 148, 70, 120, 149, 66, 67, 69, 160, 161, 162, 163, 164, 165, 166, 167, 168, 169, 170, 171, 181, 182] (by decide +kernel) (by decide +kernel)
set_option maxRecDepth 20000 in
theorem gX5_fill_X2_pour : GoodIn wsX5_fill (wsV RX5 92 RX2 yX2_pour wsX2_pour) := goodIn_app (goodIn_of _ (by decide +kernel)) ggX5_fill_X2_pour
set_option maxRecDepth 20000 in
theorem ggX5_fill_X4_wipe : GoodIn wsX5_fill wsX4_wipe := goodIn_r _ [153, 20, 172, 173, 174, 175, 176, 177, 178, 179, 180] (by decide +kernel) (by decide +kernel)
set_option maxRecDepth 20000 in
theorem gX5_fill_X4_wipe : GoodIn wsX5_fill (wsV RX5 96 RX4 yX4_wipe wsX4_wipe) := goodIn_app (goodIn_of _ (by decide +kernel)) ggX5_fill_X4_wipe
theorem dX5_fill_0 : decode cX5_fill 0 = .ok (.iload_n 1, 1) := by decide +kernel
theorem dX5_fill_1 : decode cX5_fill 1 = .ok (.invokestatic 40, 3) := by decide +kernel
theorem dX5_fill_4 : decode cX5_fill 4 = .ok (.ifCond .ne 13, 3) := by decide +kernel
theorem dX5_fill_7 : decode cX5_fill 7 = .ok (.new 44, 3) := by decide +kernel
theorem dX5_fill_10 : decode cX5_fill 10 = .ok (.dup, 1) := by decide +kernel
theorem dX5_fill_11 : decode cX5_fill 11 = .ok (.ldc 46, 2) := by decide +kernel
theorem dX5_fill_13 : decode cX5_fill 13 = .ok (.invokespecial 48, 3) := by decide +kernel
theorem dX5_fill_16 : decode cX5_fill 16 = .ok (.athrow, 1) := by decide +kernel
theorem dX5_fill_17 : decode cX5_fill 17 = .ok (.aload_n 0, 1) := by decide +kernel
theorem dX5_fill_18 : decode cX5_fill 18 = .ok (.getfield 32, 3) := by decide +kernel
theorem dX5_fill_21 : decode cX5_fill 21 = .ok (.invokevirtual 51, 3) := by decide +kernel
theorem dX5_fill_24 : decode cX5_fill 24 = .ok (.ifCond .ne 13, 3) := by decide +kernel
theorem dX5_fill_27 : decode cX5_fill 27 = .ok (.new 55, 3) := by decide +kernel
theorem dX5_fill_30 : decode cX5_fill 30 = .ok (.dup, 1) := by decide +kernel
theorem dX5_fill_31 : decode cX5_fill 31 = .ok (.ldc 57, 2) := by decide +kernel
theorem dX5_fill_33 : decode cX5_fill 33 = .ok (.invokespecial 59, 3) := by decide +kernel
theorem dX5_fill_36 : decode cX5_fill 36 = .ok (.athrow, 1) := by decide +kernel
theorem dX5_fill_37 : decode cX5_fill 37 = .ok (.aload_n 0, 1) := by decide +kernel
theorem dX5_fill_38 : decode cX5_fill 38 = .ok (.getfield 10, 3) := by decide +kernel
theorem dX5_fill_41 : decode cX5_fill 41 = .ok (.getfield 60, 3) := by decide +kernel
theorem dX5_fill_44 : decode cX5_fill 44 = .ok (.iload_n 1, 1) := by decide +kernel
theorem dX5_fill_45 : decode cX5_fill 45 = .ok (.invokevirtual 64, 3) := by decide +kernel
theorem dX5_fill_48 : decode cX5_fill 48 = .ok (.aload_n 0, 1) := by decide +kernel
theorem dX5_fill_49 : decode cX5_fill 49 = .ok (.getfield 32, 3) := by decide +kernel
theorem dX5_fill_52 : decode cX5_fill 52 = .ok (.invokevirtual 70, 3) := by decide +kernel
theorem dX5_fill_55 : decode cX5_fill 55 = .ok (.iadd, 1) := by decide +kernel
theorem dX5_fill_56 : decode cX5_fill 56 = .ok (.bipush 40, 2) := by decide +kernel
theorem dX5_fill_58 : decode cX5_fill 58 = .ok (.if_icmp .le 13, 3) := by decide +kernel
theorem dX5_fill_61 : decode cX5_fill 61 = .ok (.new 74, 3) := by decide +kernel
theorem dX5_fill_64 : decode cX5_fill 64 = .ok (.dup, 1) := by decide +kernel
theorem dX5_fill_65 : decode cX5_fill 65 = .ok (.ldc 76, 2) := by decide +kernel
theorem dX5_fill_67 : decode cX5_fill 67 = .ok (.invokespecial 78, 3) := by decide +kernel
theorem dX5_fill_70 : decode cX5_fill 70 = .ok (.athrow, 1) := by decide +kernel
theorem dX5_fill_71 : decode cX5_fill 71 = .ok (.aload_n 0, 1) := by decide +kernel
theorem dX5_fill_72 : decode cX5_fill 72 = .ok (.getfield 25, 3) := by decide +kernel
theorem dX5_fill_75 : decode cX5_fill 75 = .ok (.aload_n 0, 1) := by decide +kernel
theorem dX5_fill_76 : decode cX5_fill 76 = .ok (.getfield 10, 3) := by decide +kernel
theorem dX5_fill_79 : decode cX5_fill 79 = .ok (.invokevirtual 79, 3) := by decide +kernel
theorem dX5_fill_82 : decode cX5_fill 82 = .ok (.aload_n 0, 1) := by decide +kernel
theorem dX5_fill_83 : decode cX5_fill 83 = .ok (.getfield 32, 3) := by decide +kernel
theorem dX5_fill_86 : decode cX5_fill 86 = .ok (.invokevirtual 83, 3) := by decide +kernel
theorem dX5_fill_89 : decode cX5_fill 89 = .ok (.istore_n 2, 1) := by decide +kernel
theorem dX5_fill_90 : decode cX5_fill 90 = .ok (.iconst 0, 1) := by decide +kernel
theorem dX5_fill_91 : decode cX5_fill 91 = .ok (.istore_n 3, 1) := by decide +kernel
theorem dX5_fill_92 : decode cX5_fill 92 = .ok (.iload_n 3, 1) := by decide +kernel
theorem dX5_fill_93 : decode cX5_fill 93 = .ok (.iload_n 2, 1) := by decide +kernel
theorem dX5_fill_94 : decode cX5_fill 94 = .ok (.if_icmp .ge 33, 3) := by decide +kernel
theorem dX5_fill_97 : decode cX5_fill 97 = .ok (.aload_n 0, 1) := by decide +kernel
theorem dX5_fill_98 : decode cX5_fill 98 = .ok (.getfield 10, 3) := by decide +kernel
theorem dX5_fill_101 : decode cX5_fill 101 = .ok (.iload_n 1, 1) := by decide +kernel
theorem dX5_fill_102 : decode cX5_fill 102 = .ok (.aload_n 0, 1) := by decide +kernel
theorem dX5_fill_103 : decode cX5_fill 103 = .ok (.getfield 32, 3) := by decide +kernel
theorem dX5_fill_106 : decode cX5_fill 106 = .ok (.iload_n 3, 1) := by decide +kernel
theorem dX5_fill_107 : decode cX5_fill 107 = .ok (.invokevirtual 86, 3) := by decide +kernel
theorem dX5_fill_110 : decode cX5_fill 110 = .ok (.aload_n 0, 1) := by decide +kernel
theorem dX5_fill_111 : decode cX5_fill 111 = .ok (.getfield 32, 3) := by decide +kernel
theorem dX5_fill_114 : decode cX5_fill 114 = .ok (.iload_n 3, 1) := by decide +kernel
theorem dX5_fill_115 : decode cX5_fill 115 = .ok (.invokevirtual 89, 3) := by decide +kernel
theorem dX5_fill_118 : decode cX5_fill 118 = .ok (.invokevirtual 92, 3) := by decide +kernel
theorem dX5_fill_121 : decode cX5_fill 121 = .ok (.iinc 3 1, 3) := by decide +kernel
theorem dX5_fill_124 : decode cX5_fill 124 = .ok (.goto (-32), 3) := by decide +kernel
theorem dX5_fill_127 : decode cX5_fill 127 = .ok (.aload_n 0, 1) := by decide +kernel
theorem dX5_fill_128 : decode cX5_fill 128 = .ok (.getfield 32, 3) := by decide +kernel
theorem dX5_fill_131 : decode cX5_fill 131 = .ok (.invokevirtual 96, 3) := by decide +kernel
theorem dX5_fill_134 : decode cX5_fill 134 = .ok (.aload_n 0, 1) := by decide +kernel
theorem dX5_fill_135 : decode cX5_fill 135 = .ok (.getfield 10, 3) := by decide +kernel
theorem dX5_fill_138 : decode cX5_fill 138 = .ok (.getfield 60, 3) := by decide +kernel
theorem dX5_fill_141 : decode cX5_fill 141 = .ok (.iload_n 1, 1) := by decide +kernel
theorem dX5_fill_142 : decode cX5_fill 142 = .ok (.invokevirtual 64, 3) := by decide +kernel
theorem dX5_fill_145 : decode cX5_fill 145 = .ok (.ireturn, 1) := by decide +kernel
set_option maxRecDepth 20000 in
theorem ggX5_tip_X5_isCan : GoodIn wsX5_tip wsX5_isCan := goodIn_r _ [10] (by decide +kernel) (by decide +kernel)
set_option maxRecDepth 20000 in
theorem gX5_tip_X5_isCan : GoodIn wsX5_tip (va_wsS RX5 40 yX5_isCan wsX5_isCan) := goodIn_app (goodIn_of _ (by decide +kernel)) ggX5_tip_X5_isCan
set_option maxRecDepth 20000 in
theorem ggX5_tip_X3_save : GoodIn wsX5_tip wsX3_save := goodIn_r _ [15, 16, 17, 18, 19, 20, 14, 21, 22, 23, 24, 25, 26, 27, 28, 29, 30, 31, 32, 33, 34, 35, 36, 37, 38, 39, 40, 41, 42, 43, 44, 45, 46, 47, 48, 49, 50, 51, 52, 53, 54, 55, 56, 57, 58, 59, 60, 61, 62, 63, 64, 65, 101, 102, 103, 89, 90, 91, 92, 93, 94, 95, 96, 97, 98, 99, 100, 104, 105, 106, 107] (by decide +kernel) (by decide +kernel)
set_option maxRecDepth 20000 in
theorem gX5_tip_X3_save : GoodIn wsX5_tip (wsV RX5 79 RX3 yX3_save wsX3_save) := goodIn_app (goodIn_of _ (by decide +kernel)) ggX5_tip_X3_save
set_option maxRecDepth 20000 in
theorem ggX5_tip_X0_sizeOf : GoodIn wsX5_tip wsX0_sizeOf := goodIn_r _ [69, 56, 104, 105] (by decide +kernel) (by decide +kernel)
set_option maxRecDepth 20000 in
theorem gX5_tip_X0_sizeOf : GoodIn wsX5_tip (wsV RX5 64 RX0 yX0_sizeOf wsX0_sizeOf) := goodIn_app (goodIn_of _ (by decide +kernel)) ggX5_tip_X0_sizeOf
set_option maxRecDepth 20000 in
theorem ggX5_tip_X0_sumOf : GoodIn wsX5_tip wsX0_sumOf := goodIn_r _ [73, 74, 67, 68, 51, 69, 56, 75, 76, 77, 78, 53, 104, 105] (by decide +kernel) (by decide +kernel)
set_option maxRecDepth 20000 in
theorem gX5_tip_X0_sumOf : GoodIn wsX5_tip (wsV RX5 103 RX0 yX0_sumOf wsX0_sumOf) := goodIn_app (goodIn_of _ (by decide +kernel)) ggX5_tip_X0_sumOf
set_option maxRecDepth 20000 in
theorem ggX5_tip_X0_makeEmpty : GoodIn wsX5_tip wsX0_makeEmpty := goodIn_r _ [82, 56, 104, 105] (by decide +kernel) (by decide +kernel)
set_option maxRecDepth 20000 in
theorem gX5_tip_X0_makeEmpty : GoodIn wsX5_tip (wsV RX5 106 RX0 yX0_makeEmpty wsX0_makeEmpty) := goodIn_app (goodIn_of _ (by decide +kernel)) ggX5_tip_X0_makeEmpty
theorem dX5_tip_0 : decode cX5_tip 0 = .ok (.iload_n 1, 1) := by decide +kernel
theorem dX5_tip_1 : decode cX5_tip 1 = .ok (.invokestatic 40, 3) := by decide +kernel
theorem dX5_tip_4 : decode cX5_tip 4 = .ok (.ifCond .ne 13, 3) := by decide +kernel
theorem dX5_tip_7 : decode cX5_tip 7 = .ok (.new 44, 3) := by decide +kernel
theorem dX5_tip_10 : decode cX5_tip 10 = .ok (.dup, 1) := by decide +kernel
theorem dX5_tip_11 : decode cX5_tip 11 = .ok (.ldc 46, 2) := by decide +kernel
theorem dX5_tip_13 : decode cX5_tip 13 = .ok (.invokespecial 48, 3) := by decide +kernel
theorem dX5_tip_16 : decode cX5_tip 16 = .ok (.athrow, 1) := by decide +kernel
theorem dX5_tip_17 : decode cX5_tip 17 = .ok (.aload_n 0, 1) := by decide +kernel
theorem dX5_tip_18 : decode cX5_tip 18 = .ok (.getfield 25, 3) := by decide +kernel
theorem dX5_tip_21 : decode cX5_tip 21 = .ok (.aload_n 0, 1) := by decide +kernel
theorem dX5_tip_22 : decode cX5_tip 22 = .ok (.getfield 10, 3) := by decide +kernel
theorem dX5_tip_25 : decode cX5_tip 25 = .ok (.invokevirtual 79, 3) := by decide +kernel
theorem dX5_tip_28 : decode cX5_tip 28 = .ok (.aload_n 0, 1) := by decide +kernel
theorem dX5_tip_29 : decode cX5_tip 29 = .ok (.getfield 10, 3) := by decide +kernel
theorem dX5_tip_32 : decode cX5_tip 32 = .ok (.getfield 60, 3) := by decide +kernel
theorem dX5_tip_35 : decode cX5_tip 35 = .ok (.iload_n 1, 1) := by decide +kernel
theorem dX5_tip_36 : decode cX5_tip 36 = .ok (.invokevirtual 64, 3) := by decide +kernel
theorem dX5_tip_39 : decode cX5_tip 39 = .ok (.istore_n 2, 1) := by decide +kernel
theorem dX5_tip_40 : decode cX5_tip 40 = .ok (.aload_n 0, 1) := by decide +kernel
theorem dX5_tip_41 : decode cX5_tip 41 = .ok (.getfield 10, 3) := by decide +kernel
theorem dX5_tip_44 : decode cX5_tip 44 = .ok (.dup, 1) := by decide +kernel
theorem dX5_tip_45 : decode cX5_tip 45 = .ok (.getfield 99, 3) := by decide +kernel
theorem dX5_tip_48 : decode cX5_tip 48 = .ok (.aload_n 0, 1) := by decide +kernel
theorem dX5_tip_49 : decode cX5_tip 49 = .ok (.getfield 10, 3) := by decide +kernel
theorem dX5_tip_52 : decode cX5_tip 52 = .ok (.getfield 60, 3) := by decide +kernel
theorem dX5_tip_55 : decode cX5_tip 55 = .ok (.iload_n 1, 1) := by decide +kernel
theorem dX5_tip_56 : decode cX5_tip 56 = .ok (.invokevirtual 103, 3) := by decide +kernel
theorem dX5_tip_59 : decode cX5_tip 59 = .ok (.iadd, 1) := by decide +kernel
theorem dX5_tip_60 : decode cX5_tip 60 = .ok (.putfield 99, 3) := by decide +kernel
theorem dX5_tip_63 : decode cX5_tip 63 = .ok (.aload_n 0, 1) := by decide +kernel
theorem dX5_tip_64 : decode cX5_tip 64 = .ok (.getfield 10, 3) := by decide +kernel
theorem dX5_tip_67 : decode cX5_tip 67 = .ok (.getfield 60, 3) := by decide +kernel
theorem dX5_tip_70 : decode cX5_tip 70 = .ok (.iload_n 1, 1) := by decide +kernel
theorem dX5_tip_71 : decode cX5_tip 71 = .ok (.invokevirtual 106, 3) := by decide +kernel
theorem dX5_tip_74 : decode cX5_tip 74 = .ok (.iload_n 2, 1) := by decide +kernel
theorem dX5_tip_75 : decode cX5_tip 75 = .ok (.ireturn, 1) := by decide +kernel
set_option maxRecDepth 20000 in
theorem ggX5_feed_X3_save : GoodIn wsX5_feed wsX3_save := goodIn_r _ [11, 12, 13, 14, 15, 16, 10, 17, 18, 19, 20, 21, 22, 23, 24, 25, 26, 27, 28, 29, 30, 31, 32, 33, 34, 35, 36, 37, 38, 39, 40, 41, 42, 43, 44, 45, 46, 47, 48, 49, 50, 51, 52, 53, 54, 55, 56, 57, 58, 59, 60, 61, 84, 85, 86, 72, 73, 74, 75, 76, 77, 78, 79, 80, 81, 82, 83, 87, 88, 89, 90] (by decide +kernel) (by decide +kernel)
set_option maxRecDepth 20000 in
theorem gX5_feed_X3_save : GoodIn wsX5_feed (wsV RX5 79 RX3 yX3_save wsX3_save) := goodIn_app (goodIn_of _ (by decide +kernel)) ggX5_feed_X3_save
set_option maxRecDepth 20000 in
theorem ggX5_feed_X1_forget : GoodIn wsX5_feed wsX1_forget := goodIn_r _ [65, 61, 89, 90] (by decide +kernel) (by decide +kernel)
set_option maxRecDepth 20000 in
theorem gX5_feed_X1_forget : GoodIn wsX5_feed (wsV RX5 119 RX1 yX1_forget wsX1_forget) := goodIn_app (goodIn_of _ (by decide +kernel)) ggX5_feed_X1_forget
theorem dX5_feed_0 : decode cX5_feed 0 = .ok (.iload_n 1, 1) := by decide +kernel
theorem dX5_feed_1 : decode cX5_feed 1 = .ok (.ifCond .lt 10, 3) := by decide +kernel
theorem dX5_feed_4 : decode cX5_feed 4 = .ok (.iload_n 1, 1) := by decide +kernel
theorem dX5_feed_5 : decode cX5_feed 5 = .ok (.sipush 256, 3) := by decide +kernel
theorem dX5_feed_8 : decode cX5_feed 8 = .ok (.if_icmp .lt 13, 3) := by decide +kernel
theorem dX5_feed_11 : decode cX5_feed 11 = .ok (.new 55, 3) := by decide +kernel
theorem dX5_feed_14 : decode cX5_feed 14 = .ok (.dup, 1) := by decide +kernel
theorem dX5_feed_15 : decode cX5_feed 15 = .ok (.ldc 110, 2) := by decide +kernel
theorem dX5_feed_17 : decode cX5_feed 17 = .ok (.invokespecial 59, 3) := by decide +kernel
theorem dX5_feed_20 : decode cX5_feed 20 = .ok (.athrow, 1) := by decide +kernel
theorem dX5_feed_21 : decode cX5_feed 21 = .ok (.aload_n 0, 1) := by decide +kernel
theorem dX5_feed_22 : decode cX5_feed 22 = .ok (.getfield 25, 3) := by decide +kernel
theorem dX5_feed_25 : decode cX5_feed 25 = .ok (.aload_n 0, 1) := by decide +kernel
theorem dX5_feed_26 : decode cX5_feed 26 = .ok (.getfield 10, 3) := by decide +kernel
theorem dX5_feed_29 : decode cX5_feed 29 = .ok (.invokevirtual 79, 3) := by decide +kernel
theorem dX5_feed_32 : decode cX5_feed 32 = .ok (.aload_n 0, 1) := by decide +kernel
theorem dX5_feed_33 : decode cX5_feed 33 = .ok (.getfield 10, 3) := by decide +kernel
theorem dX5_feed_36 : decode cX5_feed 36 = .ok (.getfield 112, 3) := by decide +kernel
theorem dX5_feed_39 : decode cX5_feed 39 = .ok (.istore_n 2, 1) := by decide +kernel
theorem dX5_feed_40 : decode cX5_feed 40 = .ok (.iload_n 1, 1) := by decide +kernel
theorem dX5_feed_41 : decode cX5_feed 41 = .ok (.iload_n 2, 1) := by decide +kernel
theorem dX5_feed_42 : decode cX5_feed 42 = .ok (.if_icmp .eq 13, 3) := by decide +kernel
theorem dX5_feed_45 : decode cX5_feed 45 = .ok (.aload_n 0, 1) := by decide +kernel
theorem dX5_feed_46 : decode cX5_feed 46 = .ok (.getfield 10, 3) := by decide +kernel
theorem dX5_feed_49 : decode cX5_feed 49 = .ok (.getfield 115, 3) := by decide +kernel
theorem dX5_feed_52 : decode cX5_feed 52 = .ok (.invokevirtual 119, 3) := by decide +kernel
theorem dX5_feed_55 : decode cX5_feed 55 = .ok (.aload_n 0, 1) := by decide +kernel
theorem dX5_feed_56 : decode cX5_feed 56 = .ok (.getfield 10, 3) := by decide +kernel
theorem dX5_feed_59 : decode cX5_feed 59 = .ok (.iload_n 1, 1) := by decide +kernel
theorem dX5_feed_60 : decode cX5_feed 60 = .ok (.putfield 112, 3) := by decide +kernel
theorem dX5_feed_63 : decode cX5_feed 63 = .ok (.iload_n 2, 1) := by decide +kernel
theorem dX5_feed_64 : decode cX5_feed 64 = .ok (.ireturn, 1) := by decide +kernel
set_option maxRecDepth 20000 in
theorem ggX5_out_X5_isCan : GoodIn wsX5_out wsX5_isCan := goodIn_r _ [9] (by decide +kernel) (by decide +kernel)
set_option maxRecDepth 20000 in
theorem gX5_out_X5_isCan : GoodIn wsX5_out (va_wsS RX5 40 yX5_isCan wsX5_isCan) := goodIn_app (goodIn_of _ (by decide +kernel)) ggX5_out_X5_isCan
set_option maxRecDepth 20000 in
theorem ggX5_out_X3_save : GoodIn wsX5_out wsX3_save := goodIn_r _ [14, 15, 16, 17, 18, 19, 13, 20, 21, 22, 23, 24, 25, 26, 27, 28, 29, 30, 31, 32, 33, 34, 35, 36, 37, 38, 39, 40, 41, 42, 43, 44, 45, 46, 47, 48, 49, 50, 51, 52, 53, 54, 55, 56, 57, 58, 59, 60, 61, 62, 63, 64, 83, 84, 85, 71, 72, 73, 74, 75, 76, 77, 78, 79, 80, 81, 82, 86, 87, 88, 89] (by decide +kernel) (by decide +kernel)
set_option maxRecDepth 20000 in
theorem gX5_out_X3_save : GoodIn wsX5_out (wsV RX5 79 RX3 yX3_save wsX3_save) := goodIn_app (goodIn_of _ (by decide +kernel)) ggX5_out_X3_save
theorem dX5_out_0 : decode cX5_out 0 = .ok (.iload_n 1, 1) := by decide +kernel
theorem dX5_out_1 : decode cX5_out 1 = .ok (.invokestatic 40, 3) := by decide +kernel
theorem dX5_out_4 : decode cX5_out 4 = .ok (.ifCond .ne 13, 3) := by decide +kernel
theorem dX5_out_7 : decode cX5_out 7 = .ok (.new 44, 3) := by decide +kernel
theorem dX5_out_10 : decode cX5_out 10 = .ok (.dup, 1) := by decide +kernel
theorem dX5_out_11 : decode cX5_out 11 = .ok (.ldc 46, 2) := by decide +kernel
theorem dX5_out_13 : decode cX5_out 13 = .ok (.invokespecial 48, 3) := by decide +kernel
theorem dX5_out_16 : decode cX5_out 16 = .ok (.athrow, 1) := by decide +kernel
theorem dX5_out_17 : decode cX5_out 17 = .ok (.aload_n 0, 1) := by decide +kernel
theorem dX5_out_18 : decode cX5_out 18 = .ok (.getfield 25, 3) := by decide +kernel
theorem dX5_out_21 : decode cX5_out 21 = .ok (.aload_n 0, 1) := by decide +kernel
theorem dX5_out_22 : decode cX5_out 22 = .ok (.getfield 10, 3) := by decide +kernel
theorem dX5_out_25 : decode cX5_out 25 = .ok (.invokevirtual 79, 3) := by decide +kernel
theorem dX5_out_28 : decode cX5_out 28 = .ok (.aload_n 0, 1) := by decide +kernel
theorem dX5_out_29 : decode cX5_out 29 = .ok (.getfield 10, 3) := by decide +kernel
theorem dX5_out_32 : decode cX5_out 32 = .ok (.getfield 124, 3) := by decide +kernel
theorem dX5_out_35 : decode cX5_out 35 = .ok (.istore_n 2, 1) := by decide +kernel
theorem dX5_out_36 : decode cX5_out 36 = .ok (.aload_n 0, 1) := by decide +kernel
theorem dX5_out_37 : decode cX5_out 37 = .ok (.getfield 10, 3) := by decide +kernel
theorem dX5_out_40 : decode cX5_out 40 = .ok (.iload_n 1, 1) := by decide +kernel
theorem dX5_out_41 : decode cX5_out 41 = .ok (.putfield 124, 3) := by decide +kernel
theorem dX5_out_44 : decode cX5_out 44 = .ok (.iload_n 2, 1) := by decide +kernel
theorem dX5_out_45 : decode cX5_out 45 = .ok (.ireturn, 1) := by decide +kernel
set_option maxRecDepth 20000 in
theorem ggX5_run_X5_isRunLength : GoodIn wsX5_run wsX5_isRunLength := goodIn_r _ [8] (by decide +kernel) (by decide +kernel)
set_option maxRecDepth 20000 in
theorem gX5_run_X5_isRunLength : GoodIn wsX5_run (va_wsS RX5 127 yX5_isRunLength wsX5_isRunLength) := goodIn_app (goodIn_of _ (by decide +kernel)) ggX5_run_X5_isRunLength
set_option maxRecDepth 20000 in
theorem ggX5_run_X3_save : GoodIn wsX5_run wsX3_save := goodIn_r _ [13, 14, 15, 16, 17, 18, 12, 19, 20, 21, 22, 23, 24, 25, 26, 27, 28, 29, 30, 31, 32, 33, 34, 35, 36, 37, 38, 39, 40, 41, 42, 43, 44, 45, 46, 47, 48, 49, 50, 51, 52, 53, 54, 55, 56, 57, 58, 59, 60, 61, 62, 63, 138, 139, 140, 141, 142, 143, 144, 145, 146, 147, 148, 149, 150, 151, 152, 153, 154, 155, 156] (by decide +kernel) (by decide +kernel)
set_option maxRecDepth 20000 in
theorem gX5_run_X3_save : GoodIn wsX5_run (wsV RX5 79 RX3 yX3_save wsX3_save) := goodIn_app (goodIn_of _ (by decide +kernel)) ggX5_run_X3_save
set_option maxRecDepth 20000 in
theorem ggX5_run_X2_advance : GoodIn wsX5_run wsX2_advance := goodIn_r _ [67, 68, 69, 70, 24, 71, 39, 37, 38, 26, 72, 73, 74, 75, 76, 77, 78, 49, 79, 54, 80, 81, 82, 83, 84, 85, 86, 87, 51, 88, 89, 90, 91, 92, 93, 94, 95, 27, 29, 30, 31, 32, 96, 97, 98, 99, 100, 101, 102, 28, 103, 104, 105, 58, 106, 63, 60, 107, 108, 109, 110, 111, 40, 41, 112, 113, 114, 115, 116, 117, 118, 119, 53, 34, 35, 36, 120, 121, 122, 123, 61, 124, 125, 126, 127, 42, 43, 45, 128, 129, 130, 131, 141, 142, 143, 144, 145, 146, 147, 148, 149, 150, 151, 152, 153, 154, 155, 156] (by decide +kernel) (by decide +kernel)
set_option maxRecDepth 20000 in
theorem gX5_run_X2_advance : GoodIn wsX5_run (wsV RX5 132 RX2 yX2_advance wsX2_advance) := goodIn_app (goodIn_of _ (by decide +kernel)) ggX5_run_X2_advance
theorem dX5_run_0 : decode cX5_run 0 = .ok (.iload_n 1, 1) := by decide +kernel
theorem dX5_run_1 : decode cX5_run 1 = .ok (.invokestatic 127, 3) := by decide +kernel
theorem dX5_run_4 : decode cX5_run 4 = .ok (.ifCond .ne 13, 3) := by decide +kernel
theorem dX5_run_7 : decode cX5_run 7 = .ok (.new 55, 3) := by decide +kernel
theorem dX5_run_10 : decode cX5_run 10 = .ok (.dup, 1) := by decide +kernel
theorem dX5_run_11 : decode cX5_run 11 = .ok (.ldc 130, 2) := by decide +kernel
theorem dX5_run_13 : decode cX5_run 13 = .ok (.invokespecial 59, 3) := by decide +kernel
theorem dX5_run_16 : decode cX5_run 16 = .ok (.athrow, 1) := by decide +kernel
theorem dX5_run_17 : decode cX5_run 17 = .ok (.aload_n 0, 1) := by decide +kernel
theorem dX5_run_18 : decode cX5_run 18 = .ok (.getfield 25, 3) := by decide +kernel
theorem dX5_run_21 : decode cX5_run 21 = .ok (.aload_n 0, 1) := by decide +kernel
theorem dX5_run_22 : decode cX5_run 22 = .ok (.getfield 10, 3) := by decide +kernel
theorem dX5_run_25 : decode cX5_run 25 = .ok (.invokevirtual 79, 3) := by decide +kernel
theorem dX5_run_28 : decode cX5_run 28 = .ok (.aload_n 0, 1) := by decide +kernel
theorem dX5_run_29 : decode cX5_run 29 = .ok (.getfield 10, 3) := by decide +kernel
theorem dX5_run_32 : decode cX5_run 32 = .ok (.iload_n 1, 1) := by decide +kernel
theorem dX5_run_33 : decode cX5_run 33 = .ok (.invokevirtual 132, 3) := by decide +kernel
theorem dX5_run_36 : decode cX5_run 36 = .ok (.ireturn, 1) := by decide +kernel
set_option maxRecDepth 20000 in
theorem ggX5_clear_X3_save : GoodIn wsX5_clear wsX3_save := goodIn_r _ [9, 10, 11, 12, 13, 14, 8, 15, 16, 17, 18, 19, 20, 21, 22, 23, 24, 25, 26, 27, 28, 29, 30, 31, 32, 33, 34, 35, 36, 37, 38, 39, 40, 41, 42, 43, 44, 45, 46, 47, 48, 49, 50, 51, 52, 53, 54, 55, 56, 57, 58, 59, 82, 83, 84, 70, 71, 72, 73, 74, 75, 76, 77, 78, 79, 80, 81, 85, 86, 87, 88] (by decide +kernel) (by decide +kernel)
set_option maxRecDepth 20000 in
theorem gX5_clear_X3_save : GoodIn wsX5_clear (wsV RX5 79 RX3 yX3_save wsX3_save) := goodIn_app (goodIn_of _ (by decide +kernel)) ggX5_clear_X3_save
set_option maxRecDepth 20000 in
theorem ggX5_clear_X1_forget : GoodIn wsX5_clear wsX1_forget := goodIn_r _ [63, 59, 87, 88] (by decide +kernel) (by decide +kernel)
set_option maxRecDepth 20000 in
theorem gX5_clear_X1_forget : GoodIn wsX5_clear (wsV RX5 119 RX1 yX1_forget wsX1_forget) := goodIn_app (goodIn_of _ (by decide +kernel)) ggX5_clear_X1_forget
theorem dX5_clear_0 : decode cX5_clear 0 = .ok (.aload_n 0, 1) := by decide +kernel
theorem dX5_clear_1 : decode cX5_clear 1 = .ok (.getfield 25, 3) := by decide +kernel
theorem dX5_clear_4 : decode cX5_clear 4 = .ok (.aload_n 0, 1) := by decide +kernel
theorem dX5_clear_5 : decode cX5_clear 5 = .ok (.getfield 10, 3) := by decide +kernel
theorem dX5_clear_8 : decode cX5_clear 8 = .ok (.invokevirtual 79, 3) := by decide +kernel
theorem dX5_clear_11 : decode cX5_clear 11 = .ok (.aload_n 0, 1) := by decide +kernel
theorem dX5_clear_12 : decode cX5_clear 12 = .ok (.getfield 10, 3) := by decide +kernel
theorem dX5_clear_15 : decode cX5_clear 15 = .ok (.getfield 135, 3) := by decide +kernel
theorem dX5_clear_18 : decode cX5_clear 18 = .ok (.ifCond .eq 7, 3) := by decide +kernel
theorem dX5_clear_21 : decode cX5_clear 21 = .ok (.iconst 1, 1) := by decide +kernel
theorem dX5_clear_22 : decode cX5_clear 22 = .ok (.goto 4, 3) := by decide +kernel
theorem dX5_clear_25 : decode cX5_clear 25 = .ok (.iconst 0, 1) := by decide +kernel
theorem dX5_clear_26 : decode cX5_clear 26 = .ok (.istore_n 1, 1) := by decide +kernel
theorem dX5_clear_27 : decode cX5_clear 27 = .ok (.aload_n 0, 1) := by decide +kernel
theorem dX5_clear_28 : decode cX5_clear 28 = .ok (.getfield 10, 3) := by decide +kernel
theorem dX5_clear_31 : decode cX5_clear 31 = .ok (.iconst 0, 1) := by decide +kernel
theorem dX5_clear_32 : decode cX5_clear 32 = .ok (.putfield 135, 3) := by decide +kernel
theorem dX5_clear_35 : decode cX5_clear 35 = .ok (.aload_n 0, 1) := by decide +kernel
theorem dX5_clear_36 : decode cX5_clear 36 = .ok (.getfield 10, 3) := by decide +kernel
theorem dX5_clear_39 : decode cX5_clear 39 = .ok (.getfield 115, 3) := by decide +kernel
theorem dX5_clear_42 : decode cX5_clear 42 = .ok (.invokevirtual 119, 3) := by decide +kernel
theorem dX5_clear_45 : decode cX5_clear 45 = .ok (.iload_n 1, 1) := by decide +kernel
theorem dX5_clear_46 : decode cX5_clear 46 = .ok (.ireturn, 1) := by decide +kernel
set_option maxRecDepth 20000 in
theorem ggX5_set_X5_isSetting : GoodIn wsX5_set wsX5_isSetting := goodIn_r _ [10] (by decide +kernel) (by decide +kernel)
set_option maxRecDepth 20000 in
theorem gX5_set_X5_isSetting : GoodIn wsX5_set (va_wsS RX5 138 yX5_isSetting wsX5_isSetting) := goodIn_app (goodIn_of _ (by decide +kernel)) ggX5_set_X5_isSetting
set_option maxRecDepth 20000 in
theorem ggX5_set_X5_isValue : GoodIn wsX5_set wsX5_isValue := goodIn_r _ [13, 14, 15] (by decide +kernel) (by decide +kernel)
set_option maxRecDepth 20000 in
theorem gX5_set_X5_isValue : GoodIn wsX5_set (va_wsS RX5 143 yX5_isValue wsX5_isValue) := goodIn_app (goodIn_of _ (by decide +kernel)) ggX5_set_X5_isValue
set_option maxRecDepth 20000 in
theorem ggX5_set_X3_save : GoodIn wsX5_set wsX3_save := goodIn_r _ [20, 21, 22, 23, 24, 25, 19, 26, 27, 28, 29, 30, 31, 32, 33, 34, 35, 36, 37, 38, 39, 40, 41, 42, 43, 44, 45, 46, 47, 48, 49, 50, 51, 52, 53, 54, 55, 56, 57, 58, 59, 60, 61, 62, 63, 64, 65, 66, 67, 68, 69, 70, 85, 86, 87, 88, 89, 90, 91, 92, 93, 94, 95, 96, 97, 98, 99, 100, 101, 102, 103] (by decide +kernel) (by decide +kernel)
set_option maxRecDepth 20000 in
theorem gX5_set_X3_save : GoodIn wsX5_set (wsV RX5 79 RX3 yX3_save wsX3_save) := goodIn_app (goodIn_of _ (by decide +kernel)) ggX5_set_X3_save
set_option maxRecDepth 20000 in
theorem ggX5_set_X2_settingOf : GoodIn wsX5_set wsX2_settingOf := goodIn_r _ [74, 35, 88, 89, 90, 91, 92, 93, 94, 95, 96, 97, 98, 99] (by decide +kernel) (by decide +kernel)
set_option maxRecDepth 20000 in
theorem gX5_set_X2_settingOf : GoodIn wsX5_set (wsV RX5 149 RX2 yX2_settingOf wsX2_settingOf) := goodIn_app (goodIn_of _ (by decide +kernel)) ggX5_set_X2_settingOf
set_option maxRecDepth 20000 in
theorem ggX5_set_X2_changeSetting : GoodIn wsX5_set wsX2_changeSetting := goodIn_r _ [78, 35, 88, 89, 90, 91, 92, 93, 94, 95, 96, 97, 98, 99] (by decide +kernel) (by decide +kernel)
set_option maxRecDepth 20000 in
theorem gX5_set_X2_changeSetting : GoodIn wsX5_set (wsV RX5 152 RX2 yX2_changeSetting wsX2_changeSetting) := goodIn_app (goodIn_of _ (by decide +kernel)) ggX5_set_X2_changeSetting
theorem dX5_set_0 : decode cX5_set 0 = .ok (.iload_n 1, 1) := by decide +kernel
theorem dX5_set_1 : decode cX5_set 1 = .ok (.invokestatic 138, 3) := by decide +kernel
theorem dX5_set_4 : decode cX5_set 4 = .ok (.ifCond .ne 13, 3) := by decide +kernel
theorem dX5_set_7 : decode cX5_set 7 = .ok (.new 44, 3) := by decide +kernel
theorem dX5_set_10 : decode cX5_set 10 = .ok (.dup, 1) := by decide +kernel
theorem dX5_set_11 : decode cX5_set 11 = .ok (.ldc 141, 2) := by decide +kernel
theorem dX5_set_13 : decode cX5_set 13 = .ok (.invokespecial 48, 3) := by decide +kernel
theorem dX5_set_16 : decode cX5_set 16 = .ok (.athrow, 1) := by decide +kernel
theorem dX5_set_17 : decode cX5_set 17 = .ok (.iload_n 1, 1) := by decide +kernel
theorem dX5_set_18 : decode cX5_set 18 = .ok (.iload_n 2, 1) := by decide +kernel
theorem dX5_set_19 : decode cX5_set 19 = .ok (.invokestatic 143, 3) := by decide +kernel
theorem dX5_set_22 : decode cX5_set 22 = .ok (.ifCond .ne 13, 3) := by decide +kernel
theorem dX5_set_25 : decode cX5_set 25 = .ok (.new 55, 3) := by decide +kernel
theorem dX5_set_28 : decode cX5_set 28 = .ok (.dup, 1) := by decide +kernel
theorem dX5_set_29 : decode cX5_set 29 = .ok (.ldc 147, 2) := by decide +kernel
theorem dX5_set_31 : decode cX5_set 31 = .ok (.invokespecial 59, 3) := by decide +kernel
theorem dX5_set_34 : decode cX5_set 34 = .ok (.athrow, 1) := by decide +kernel
theorem dX5_set_35 : decode cX5_set 35 = .ok (.aload_n 0, 1) := by decide +kernel
theorem dX5_set_36 : decode cX5_set 36 = .ok (.getfield 25, 3) := by decide +kernel
theorem dX5_set_39 : decode cX5_set 39 = .ok (.aload_n 0, 1) := by decide +kernel
theorem dX5_set_40 : decode cX5_set 40 = .ok (.getfield 10, 3) := by decide +kernel
theorem dX5_set_43 : decode cX5_set 43 = .ok (.invokevirtual 79, 3) := by decide +kernel
theorem dX5_set_46 : decode cX5_set 46 = .ok (.aload_n 0, 1) := by decide +kernel
theorem dX5_set_47 : decode cX5_set 47 = .ok (.getfield 10, 3) := by decide +kernel
theorem dX5_set_50 : decode cX5_set 50 = .ok (.iload_n 1, 1) := by decide +kernel
theorem dX5_set_51 : decode cX5_set 51 = .ok (.invokevirtual 149, 3) := by decide +kernel
theorem dX5_set_54 : decode cX5_set 54 = .ok (.istore_n 3, 1) := by decide +kernel
theorem dX5_set_55 : decode cX5_set 55 = .ok (.aload_n 0, 1) := by decide +kernel
theorem dX5_set_56 : decode cX5_set 56 = .ok (.getfield 10, 3) := by decide +kernel
theorem dX5_set_59 : decode cX5_set 59 = .ok (.iload_n 1, 1) := by decide +kernel
theorem dX5_set_60 : decode cX5_set 60 = .ok (.iload_n 2, 1) := by decide +kernel
theorem dX5_set_61 : decode cX5_set 61 = .ok (.invokevirtual 152, 3) := by decide +kernel
theorem dX5_set_64 : decode cX5_set 64 = .ok (.iload_n 3, 1) := by decide +kernel
theorem dX5_set_65 : decode cX5_set 65 = .ok (.ireturn, 1) := by decide +kernel
set_option maxRecDepth 20000 in
theorem ggX5_append_X4_isFull : GoodIn wsX5_append wsX4_isFull := goodIn_r _ [10, 11, 27, 28, 29, 30, 31, 32, 33, 34, 35] (by decide +kernel) (by decide +kernel)
set_option maxRecDepth 20000 in
theorem gX5_append_X4_isFull : GoodIn wsX5_append (wsV RX5 158 RX4 yX4_isFull wsX4_isFull) := goodIn_app (goodIn_of _ (by decide +kernel)) ggX5_append_X4_isFull
set_option maxRecDepth 20000 in
theorem ggX5_append_X4_add : GoodIn wsX5_append wsX4_add := goodIn_r _ [15, 11, 16, 27, 28, 29, 30, 31, 32, 33, 34, 35] (by decide +kernel) (by decide +kernel)
set_option maxRecDepth 20000 in
theorem gX5_append_X4_add : GoodIn wsX5_append (wsV RX5 163 RX4 yX4_add wsX4_add) := goodIn_app (goodIn_of _ (by decide +kernel)) ggX5_append_X4_add
set_option maxRecDepth 20000 in
theorem ggX5_append_X4_length : GoodIn wsX5_append wsX4_length := goodIn_r _ [20, 11, 27, 28, 29, 30, 31, 32, 33, 34, 35] (by decide +kernel) (by decide +kernel)
set_option maxRecDepth 20000 in
theorem gX5_append_X4_length : GoodIn wsX5_append (wsV RX5 166 RX4 yX4_length wsX4_length) := goodIn_app (goodIn_of _ (by decide +kernel)) ggX5_append_X4_length
theorem dX5_append_0 : decode cX5_append 0 = .ok (.iload_n 1, 1) := by decide +kernel
theorem dX5_append_1 : decode cX5_append 1 = .ok (.bipush 33, 2) := by decide +kernel
theorem dX5_append_3 : decode cX5_append 3 = .ok (.if_icmp .lt 9, 3) := by decide +kernel
theorem dX5_append_6 : decode cX5_append 6 = .ok (.iload_n 1, 1) := by decide +kernel
theorem dX5_append_7 : decode cX5_append 7 = .ok (.bipush 126, 2) := by decide +kernel
theorem dX5_append_9 : decode cX5_append 9 = .ok (.if_icmp .le 13, 3) := by decide +kernel
theorem dX5_append_12 : decode cX5_append 12 = .ok (.new 55, 3) := by decide +kernel
theorem dX5_append_15 : decode cX5_append 15 = .ok (.dup, 1) := by decide +kernel
theorem dX5_append_16 : decode cX5_append 16 = .ok (.ldc 156, 2) := by decide +kernel
theorem dX5_append_18 : decode cX5_append 18 = .ok (.invokespecial 59, 3) := by decide +kernel
theorem dX5_append_21 : decode cX5_append 21 = .ok (.athrow, 1) := by decide +kernel
theorem dX5_append_22 : decode cX5_append 22 = .ok (.aload_n 0, 1) := by decide +kernel
theorem dX5_append_23 : decode cX5_append 23 = .ok (.getfield 32, 3) := by decide +kernel
theorem dX5_append_26 : decode cX5_append 26 = .ok (.invokevirtual 158, 3) := by decide +kernel
theorem dX5_append_29 : decode cX5_append 29 = .ok (.ifCond .eq 13, 3) := by decide +kernel
theorem dX5_append_32 : decode cX5_append 32 = .ok (.new 74, 3) := by decide +kernel
theorem dX5_append_35 : decode cX5_append 35 = .ok (.dup, 1) := by decide +kernel
theorem dX5_append_36 : decode cX5_append 36 = .ok (.ldc 161, 2) := by decide +kernel
theorem dX5_append_38 : decode cX5_append 38 = .ok (.invokespecial 78, 3) := by decide +kernel
theorem dX5_append_41 : decode cX5_append 41 = .ok (.athrow, 1) := by decide +kernel
theorem dX5_append_42 : decode cX5_append 42 = .ok (.aload_n 0, 1) := by decide +kernel
theorem dX5_append_43 : decode cX5_append 43 = .ok (.getfield 32, 3) := by decide +kernel
theorem dX5_append_46 : decode cX5_append 46 = .ok (.iload_n 1, 1) := by decide +kernel
theorem dX5_append_47 : decode cX5_append 47 = .ok (.invokevirtual 163, 3) := by decide +kernel
theorem dX5_append_50 : decode cX5_append 50 = .ok (.aload_n 0, 1) := by decide +kernel
theorem dX5_append_51 : decode cX5_append 51 = .ok (.getfield 32, 3) := by decide +kernel
theorem dX5_append_54 : decode cX5_append 54 = .ok (.invokevirtual 166, 3) := by decide +kernel
theorem dX5_append_57 : decode cX5_append 57 = .ok (.ireturn, 1) := by decide +kernel
set_option maxRecDepth 20000 in
theorem ggX5_clearBuffer_X4_length : GoodIn wsX5_clearBuffer wsX4_length := goodIn_r _ [6, 7, 18, 19, 20, 21, 22, 23, 24, 25, 26] (by decide +kernel) (by decide +kernel)
set_option maxRecDepth 20000 in
theorem gX5_clearBuffer_X4_length : GoodIn wsX5_clearBuffer (wsV RX5 166 RX4 yX4_length wsX4_length) := goodIn_app (goodIn_of _ (by decide +kernel)) ggX5_clearBuffer_X4_length
set_option maxRecDepth 20000 in
theorem ggX5_clearBuffer_X4_wipe : GoodIn wsX5_clearBuffer wsX4_wipe := goodIn_r _ [11, 7, 18, 19, 20, 21, 22, 23, 24, 25, 26] (by decide +kernel) (by decide +kernel)
set_option maxRecDepth 20000 in
theorem gX5_clearBuffer_X4_wipe : GoodIn wsX5_clearBuffer (wsV RX5 96 RX4 yX4_wipe wsX4_wipe) := goodIn_app (goodIn_of _ (by decide +kernel)) ggX5_clearBuffer_X4_wipe
theorem dX5_clearBuffer_0 : decode cX5_clearBuffer 0 = .ok (.aload_n 0, 1) := by decide +kernel
theorem dX5_clearBuffer_1 : decode cX5_clearBuffer 1 = .ok (.getfield 32, 3) := by decide +kernel
theorem dX5_clearBuffer_4 : decode cX5_clearBuffer 4 = .ok (.invokevirtual 166, 3) := by decide +kernel
theorem dX5_clearBuffer_7 : decode cX5_clearBuffer 7 = .ok (.istore_n 1, 1) := by decide +kernel
theorem dX5_clearBuffer_8 : decode cX5_clearBuffer 8 = .ok (.aload_n 0, 1) := by decide +kernel
theorem dX5_clearBuffer_9 : decode cX5_clearBuffer 9 = .ok (.getfield 32, 3) := by decide +kernel
theorem dX5_clearBuffer_12 : decode cX5_clearBuffer 12 = .ok (.invokevirtual 96, 3) := by decide +kernel
theorem dX5_clearBuffer_15 : decode cX5_clearBuffer 15 = .ok (.iload_n 1, 1) := by decide +kernel
theorem dX5_clearBuffer_16 : decode cX5_clearBuffer 16 = .ok (.ireturn, 1) := by decide +kernel
set_option maxRecDepth 20000 in
theorem ggX5_undo_X3_savedCount : GoodIn wsX5_undo wsX3_savedCount := goodIn_r _ [9, 10, 70, 71, 72] (by decide +kernel) (by decide +kernel)
set_option maxRecDepth 20000 in
theorem gX5_undo_X3_savedCount : GoodIn wsX5_undo (wsV RX5 180 RX3 yX3_savedCount wsX3_savedCount) := goodIn_app (goodIn_of _ (by decide +kernel)) ggX5_undo_X3_savedCount
set_option maxRecDepth 20000 in
theorem ggX5_undo_X3_restore : GoodIn wsX5_undo wsX3_restore := goodIn_r _ [14, 10, 15, 16, 17, 18, 8, 19, 20, 21, 22, 23, 24, 25, 26, 27, 28, 29, 30, 31, 32, 33, 34, 35, 36, 37, 38, 39, 40, 41, 42, 43, 44, 45, 46, 47, 48, 49, 50, 51, 52, 53, 54, 55, 56, 57, 58, 59, 60, 61, 62, 63, 70, 71, 72, 73, 74, 75, 76, 77, 78, 79, 80, 81, 82, 83, 84, 85, 86, 87, 88] (by decide +kernel) (by decide +kernel)
set_option maxRecDepth 20000 in
theorem gX5_undo_X3_restore : GoodIn wsX5_undo (wsV RX5 185 RX3 yX3_restore wsX3_restore) := goodIn_app (goodIn_of _ (by decide +kernel)) ggX5_undo_X3_restore
theorem dX5_undo_0 : decode cX5_undo 0 = .ok (.aload_n 0, 1) := by decide +kernel
theorem dX5_undo_1 : decode cX5_undo 1 = .ok (.getfield 25, 3) := by decide +kernel
theorem dX5_undo_4 : decode cX5_undo 4 = .ok (.invokevirtual 180, 3) := by decide +kernel
theorem dX5_undo_7 : decode cX5_undo 7 = .ok (.ifCond .ne 13, 3) := by decide +kernel
theorem dX5_undo_10 : decode cX5_undo 10 = .ok (.new 74, 3) := by decide +kernel
theorem dX5_undo_13 : decode cX5_undo 13 = .ok (.dup, 1) := by decide +kernel
theorem dX5_undo_14 : decode cX5_undo 14 = .ok (.ldc 183, 2) := by decide +kernel
theorem dX5_undo_16 : decode cX5_undo 16 = .ok (.invokespecial 78, 3) := by decide +kernel
theorem dX5_undo_19 : decode cX5_undo 19 = .ok (.athrow, 1) := by decide +kernel
theorem dX5_undo_20 : decode cX5_undo 20 = .ok (.aload_n 0, 1) := by decide +kernel
theorem dX5_undo_21 : decode cX5_undo 21 = .ok (.getfield 25, 3) := by decide +kernel
theorem dX5_undo_24 : decode cX5_undo 24 = .ok (.aload_n 0, 1) := by decide +kernel
theorem dX5_undo_25 : decode cX5_undo 25 = .ok (.getfield 10, 3) := by decide +kernel
theorem dX5_undo_28 : decode cX5_undo 28 = .ok (.invokevirtual 185, 3) := by decide +kernel
theorem dX5_undo_31 : decode cX5_undo 31 = .ok (.aload_n 0, 1) := by decide +kernel
theorem dX5_undo_32 : decode cX5_undo 32 = .ok (.getfield 25, 3) := by decide +kernel
theorem dX5_undo_35 : decode cX5_undo 35 = .ok (.invokevirtual 180, 3) := by decide +kernel
theorem dX5_undo_38 : decode cX5_undo 38 = .ok (.ireturn, 1) := by decide +kernel
set_option maxRecDepth 20000 in
theorem ggX5_can_X5_isCan : GoodIn wsX5_can wsX5_isCan := goodIn_r _ [10] (by decide +kernel) (by decide +kernel)
set_option maxRecDepth 20000 in
theorem gX5_can_X5_isCan : GoodIn wsX5_can (va_wsS RX5 40 yX5_isCan wsX5_isCan) := goodIn_app (goodIn_of _ (by decide +kernel)) ggX5_can_X5_isCan
set_option maxRecDepth 20000 in
theorem ggX5_can_X0_sizeOf : GoodIn wsX5_can wsX0_sizeOf := goodIn_r _ [15, 16, 80, 81] (by decide +kernel) (by decide +kernel)
set_option maxRecDepth 20000 in
theorem gX5_can_X0_sizeOf : GoodIn wsX5_can (wsV RX5 64 RX0 yX0_sizeOf wsX0_sizeOf) := goodIn_app (goodIn_of _ (by decide +kernel)) ggX5_can_X0_sizeOf
set_option maxRecDepth 20000 in
theorem ggX5_can_X0_sumOf : GoodIn wsX5_can wsX0_sumOf := goodIn_r _ [20, 21, 12, 13, 14, 15, 16, 22, 23, 24, 25, 26, 80, 81] (by decide +kernel) (by decide +kernel)
set_option maxRecDepth 20000 in
theorem gX5_can_X0_sumOf : GoodIn wsX5_can (wsV RX5 103 RX0 yX0_sumOf wsX0_sumOf) := goodIn_app (goodIn_of _ (by decide +kernel)) ggX5_can_X0_sumOf
set_option maxRecDepth 20000 in
theorem ggX5_can_X0_leastOf : GoodIn wsX5_can wsX0_leastOf := goodIn_r _ [30, 31, 32, 33, 34, 21, 12, 13, 14, 15, 16, 22, 23, 24, 25, 26, 80, 81] (by decide +kernel) (by decide +kernel)
set_option maxRecDepth 20000 in
theorem gX5_can_X0_leastOf : GoodIn wsX5_can (wsV RX5 188 RX0 yX0_leastOf wsX0_leastOf) := goodIn_app (goodIn_of _ (by decide +kernel)) ggX5_can_X0_leastOf
set_option maxRecDepth 20000 in
theorem ggX5_can_X0_greatestOf : GoodIn wsX5_can wsX0_greatestOf := goodIn_r _ [38, 39, 40, 33, 41, 21, 12, 13, 14, 15, 16, 22, 23, 24, 25, 26, 80, 81] (by decide +kernel) (by decide +kernel)
set_option maxRecDepth 20000 in
theorem gX5_can_X0_greatestOf : GoodIn wsX5_can (wsV RX5 191 RX0 yX0_greatestOf wsX0_greatestOf) := goodIn_app (goodIn_of _ (by decide +kernel)) ggX5_can_X0_greatestOf
set_option maxRecDepth 20000 in
theorem ggX5_can_X0_spreadOf : GoodIn wsX5_can wsX0_spreadOf := goodIn_r _ [45, 46, 36, 37, 14, 38, 39, 40, 33, 41, 21, 12, 13, 15, 16, 22, 23, 24, 25, 26, 47, 28, 29, 30, 31, 32, 34, 80, 81] (by decide +kernel) (by decide +kernel)
set_option maxRecDepth 20000 in
theorem gX5_can_X0_spreadOf : GoodIn wsX5_can (wsV RX5 194 RX0 yX0_spreadOf wsX0_spreadOf) := goodIn_app (goodIn_of _ (by decide +kernel)) ggX5_can_X0_spreadOf
set_option maxRecDepth 20000 in
theorem ggX5_can_X0_stepsOf : GoodIn wsX5_can wsX0_stepsOf := goodIn_r _ [51, 52, 53, 33, 54, 21, 12, 13, 14, 15, 16, 22, 23, 24, 25, 26, 80, 81] (by decide +kernel) (by decide +kernel)
set_option maxRecDepth 20000 in
theorem gX5_can_X0_stepsOf : GoodIn wsX5_can (wsV RX5 197 RX0 yX0_stepsOf wsX0_stepsOf) := goodIn_app (goodIn_of _ (by decide +kernel)) ggX5_can_X0_stepsOf
set_option maxRecDepth 20000 in
theorem ggX5_can_X2_isFed : GoodIn wsX5_can wsX2_isFed := goodIn_r _ [59, 60, 68, 69, 70, 71, 72, 73, 74, 75, 76, 77, 78, 79] (by decide +kernel) (by decide +kernel)
set_option maxRecDepth 20000 in
theorem gX5_can_X2_isFed : GoodIn wsX5_can (wsV RX5 200 RX2 yX2_isFed wsX2_isFed) := goodIn_app (goodIn_of _ (by decide +kernel)) ggX5_can_X2_isFed
set_option maxRecDepth 20000 in
theorem ggX5_can_X0_weightOf : GoodIn wsX5_can wsX0_weightOf := goodIn_r _ [25, 26, 21, 12, 13, 14, 15, 16, 80, 81] (by decide +kernel) (by decide +kernel)
set_option maxRecDepth 20000 in
theorem gX5_can_X0_weightOf : GoodIn wsX5_can (wsV RX5 203 RX0 yX0_weightOf wsX0_weightOf) := goodIn_app (goodIn_of _ (by decide +kernel)) ggX5_can_X0_weightOf
theorem dX5_can_0 : decode cX5_can 0 = .ok (.iload_n 1, 1) := by decide +kernel
theorem dX5_can_1 : decode cX5_can 1 = .ok (.invokestatic 40, 3) := by decide +kernel
theorem dX5_can_4 : decode cX5_can 4 = .ok (.ifCond .ne 13, 3) := by decide +kernel
theorem dX5_can_7 : decode cX5_can 7 = .ok (.new 44, 3) := by decide +kernel
theorem dX5_can_10 : decode cX5_can 10 = .ok (.dup, 1) := by decide +kernel
theorem dX5_can_11 : decode cX5_can 11 = .ok (.ldc 46, 2) := by decide +kernel
theorem dX5_can_13 : decode cX5_can 13 = .ok (.invokespecial 48, 3) := by decide +kernel
theorem dX5_can_16 : decode cX5_can 16 = .ok (.athrow, 1) := by decide +kernel
theorem dX5_can_17 : decode cX5_can 17 = .ok (.iload_n 2, 1) := by decide +kernel
theorem dX5_can_18 : decode cX5_can 18 = .ok (.tableswitch 148 0 7 #[46, 58, 70, 82, 94, 106, 118, 135], 46) := by decide +kernel
theorem dX5_can_64 : decode cX5_can 64 = .ok (.aload_n 0, 1) := by decide +kernel
theorem dX5_can_65 : decode cX5_can 65 = .ok (.getfield 10, 3) := by decide +kernel
theorem dX5_can_68 : decode cX5_can 68 = .ok (.getfield 60, 3) := by decide +kernel
theorem dX5_can_71 : decode cX5_can 71 = .ok (.iload_n 1, 1) := by decide +kernel
theorem dX5_can_72 : decode cX5_can 72 = .ok (.invokevirtual 64, 3) := by decide +kernel
theorem dX5_can_75 : decode cX5_can 75 = .ok (.ireturn, 1) := by decide +kernel
theorem dX5_can_76 : decode cX5_can 76 = .ok (.aload_n 0, 1) := by decide +kernel
theorem dX5_can_77 : decode cX5_can 77 = .ok (.getfield 10, 3) := by decide +kernel
theorem dX5_can_80 : decode cX5_can 80 = .ok (.getfield 60, 3) := by decide +kernel
theorem dX5_can_83 : decode cX5_can 83 = .ok (.iload_n 1, 1) := by decide +kernel
theorem dX5_can_84 : decode cX5_can 84 = .ok (.invokevirtual 103, 3) := by decide +kernel
theorem dX5_can_87 : decode cX5_can 87 = .ok (.ireturn, 1) := by decide +kernel
theorem dX5_can_88 : decode cX5_can 88 = .ok (.aload_n 0, 1) := by decide +kernel
theorem dX5_can_89 : decode cX5_can 89 = .ok (.getfield 10, 3) := by decide +kernel
theorem dX5_can_92 : decode cX5_can 92 = .ok (.getfield 60, 3) := by decide +kernel
theorem dX5_can_95 : decode cX5_can 95 = .ok (.iload_n 1, 1) := by decide +kernel
theorem dX5_can_96 : decode cX5_can 96 = .ok (.invokevirtual 188, 3) := by decide +kernel
theorem dX5_can_99 : decode cX5_can 99 = .ok (.ireturn, 1) := by decide +kernel
theorem dX5_can_100 : decode cX5_can 100 = .ok (.aload_n 0, 1) := by decide +kernel
theorem dX5_can_101 : decode cX5_can 101 = .ok (.getfield 10, 3) := by decide +kernel
theorem dX5_can_104 : decode cX5_can 104 = .ok (.getfield 60, 3) := by decide +kernel
theorem dX5_can_107 : decode cX5_can 107 = .ok (.iload_n 1, 1) := by decide +kernel
theorem dX5_can_108 : decode cX5_can 108 = .ok (.invokevirtual 191, 3) := by decide +kernel
theorem dX5_can_111 : decode cX5_can 111 = .ok (.ireturn, 1) := by decide +kernel
theorem dX5_can_112 : decode cX5_can 112 = .ok (.aload_n 0, 1) := by decide +kernel
theorem dX5_can_113 : decode cX5_can 113 = .ok (.getfield 10, 3) := by decide +kernel
theorem dX5_can_116 : decode cX5_can 116 = .ok (.getfield 60, 3) := by decide +kernel
theorem dX5_can_119 : decode cX5_can 119 = .ok (.iload_n 1, 1) := by decide +kernel
theorem dX5_can_120 : decode cX5_can 120 = .ok (.invokevirtual 194, 3) := by decide +kernel
theorem dX5_can_123 : decode cX5_can 123 = .ok (.ireturn, 1) := by decide +kernel
theorem dX5_can_124 : decode cX5_can 124 = .ok (.aload_n 0, 1) := by decide +kernel
theorem dX5_can_125 : decode cX5_can 125 = .ok (.getfield 10, 3) := by decide +kernel
theorem dX5_can_128 : decode cX5_can 128 = .ok (.getfield 60, 3) := by decide +kernel
theorem dX5_can_131 : decode cX5_can 131 = .ok (.iload_n 1, 1) := by decide +kernel
theorem dX5_can_132 : decode cX5_can 132 = .ok (.invokevirtual 197, 3) := by decide +kernel
theorem dX5_can_135 : decode cX5_can 135 = .ok (.ireturn, 1) := by decide +kernel
theorem dX5_can_136 : decode cX5_can 136 = .ok (.aload_n 0, 1) := by decide +kernel
theorem dX5_can_137 : decode cX5_can 137 = .ok (.getfield 10, 3) := by decide +kernel
theorem dX5_can_140 : decode cX5_can 140 = .ok (.iload_n 1, 1) := by decide +kernel
theorem dX5_can_141 : decode cX5_can 141 = .ok (.invokevirtual 200, 3) := by decide +kernel
theorem dX5_can_144 : decode cX5_can 144 = .ok (.ifCond .eq 7, 3) := by decide +kernel
theorem dX5_can_147 : decode cX5_can 147 = .ok (.iconst 1, 1) := by decide +kernel
theorem dX5_can_148 : decode cX5_can 148 = .ok (.goto 4, 3) := by decide +kernel
theorem dX5_can_151 : decode cX5_can 151 = .ok (.iconst 0, 1) := by decide +kernel
theorem dX5_can_152 : decode cX5_can 152 = .ok (.ireturn, 1) := by decide +kernel
theorem dX5_can_153 : decode cX5_can 153 = .ok (.aload_n 0, 1) := by decide +kernel
theorem dX5_can_154 : decode cX5_can 154 = .ok (.getfield 10, 3) := by decide +kernel
theorem dX5_can_157 : decode cX5_can 157 = .ok (.getfield 60, 3) := by decide +kernel
theorem dX5_can_160 : decode cX5_can 160 = .ok (.iload_n 1, 1) := by decide +kernel
theorem dX5_can_161 : decode cX5_can 161 = .ok (.iconst 0, 1) := by decide +kernel
theorem dX5_can_162 : decode cX5_can 162 = .ok (.invokevirtual 203, 3) := by decide +kernel
theorem dX5_can_165 : decode cX5_can 165 = .ok (.ireturn, 1) := by decide +kernel
theorem dX5_can_166 : decode cX5_can 166 = .ok (.new 55, 3) := by decide +kernel
theorem dX5_can_169 : decode cX5_can 169 = .ok (.dup, 1) := by decide +kernel
theorem dX5_can_170 : decode cX5_can 170 = .ok (.ldc 207, 2) := by decide +kernel
theorem dX5_can_172 : decode cX5_can 172 = .ok (.invokespecial 59, 3) := by decide +kernel
theorem dX5_can_175 : decode cX5_can 175 = .ok (.athrow, 1) := by decide +kernel
set_option maxRecDepth 20000 in
theorem ggX5_metre_X5_isCan : GoodIn wsX5_metre wsX5_isCan := goodIn_r _ [10] (by decide +kernel) (by decide +kernel)
set_option maxRecDepth 20000 in
theorem gX5_metre_X5_isCan : GoodIn wsX5_metre (va_wsS RX5 40 yX5_isCan wsX5_isCan) := goodIn_app (goodIn_of _ (by decide +kernel)) ggX5_metre_X5_isCan
set_option maxRecDepth 20000 in
theorem ggX5_metre_X0_weightOf : GoodIn wsX5_metre wsX0_weightOf := goodIn_r _ [15, 16, 17, 18, 19, 14, 20, 21, 40, 41] (by decide +kernel) (by decide +kernel)
set_option maxRecDepth 20000 in
theorem gX5_metre_X0_weightOf : GoodIn wsX5_metre (wsV RX5 203 RX0 yX0_weightOf wsX0_weightOf) := goodIn_app (goodIn_of _ (by decide +kernel)) ggX5_metre_X0_weightOf
theorem dX5_metre_0 : decode cX5_metre 0 = .ok (.iload_n 1, 1) := by decide +kernel
theorem dX5_metre_1 : decode cX5_metre 1 = .ok (.invokestatic 40, 3) := by decide +kernel
theorem dX5_metre_4 : decode cX5_metre 4 = .ok (.ifCond .ne 13, 3) := by decide +kernel
theorem dX5_metre_7 : decode cX5_metre 7 = .ok (.new 44, 3) := by decide +kernel
theorem dX5_metre_10 : decode cX5_metre 10 = .ok (.dup, 1) := by decide +kernel
theorem dX5_metre_11 : decode cX5_metre 11 = .ok (.ldc 46, 2) := by decide +kernel
theorem dX5_metre_13 : decode cX5_metre 13 = .ok (.invokespecial 48, 3) := by decide +kernel
theorem dX5_metre_16 : decode cX5_metre 16 = .ok (.athrow, 1) := by decide +kernel
theorem dX5_metre_17 : decode cX5_metre 17 = .ok (.iload_n 2, 1) := by decide +kernel
theorem dX5_metre_18 : decode cX5_metre 18 = .ok (.ifCond .ge 13, 3) := by decide +kernel
theorem dX5_metre_21 : decode cX5_metre 21 = .ok (.new 55, 3) := by decide +kernel
theorem dX5_metre_24 : decode cX5_metre 24 = .ok (.dup, 1) := by decide +kernel
theorem dX5_metre_25 : decode cX5_metre 25 = .ok (.ldc 209, 2) := by decide +kernel
theorem dX5_metre_27 : decode cX5_metre 27 = .ok (.invokespecial 59, 3) := by decide +kernel
theorem dX5_metre_30 : decode cX5_metre 30 = .ok (.athrow, 1) := by decide +kernel
theorem dX5_metre_31 : decode cX5_metre 31 = .ok (.aload_n 0, 1) := by decide +kernel
theorem dX5_metre_32 : decode cX5_metre 32 = .ok (.getfield 10, 3) := by decide +kernel
theorem dX5_metre_35 : decode cX5_metre 35 = .ok (.getfield 60, 3) := by decide +kernel
theorem dX5_metre_38 : decode cX5_metre 38 = .ok (.iload_n 1, 1) := by decide +kernel
theorem dX5_metre_39 : decode cX5_metre 39 = .ok (.iload_n 2, 1) := by decide +kernel
theorem dX5_metre_40 : decode cX5_metre 40 = .ok (.invokevirtual 203, 3) := by decide +kernel
theorem dX5_metre_43 : decode cX5_metre 43 = .ok (.ireturn, 1) := by decide +kernel
set_option maxRecDepth 20000 in
theorem ggX5_feeler_X1_feedOf : GoodIn wsX5_feeler wsX1_feedOf := goodIn_r _ [9, 10, 11, 30, 31] (by decide +kernel) (by decide +kernel)
set_option maxRecDepth 20000 in
theorem gX5_feeler_X1_feedOf : GoodIn wsX5_feeler (wsV RX5 213 RX1 yX1_feedOf wsX1_feedOf) := goodIn_app (goodIn_of _ (by decide +kernel)) ggX5_feeler_X1_feedOf
theorem dX5_feeler_0 : decode cX5_feeler 0 = .ok (.iload_n 1, 1) := by decide +kernel
theorem dX5_feeler_1 : decode cX5_feeler 1 = .ok (.ifCond .lt 9, 3) := by decide +kernel
theorem dX5_feeler_4 : decode cX5_feeler 4 = .ok (.iload_n 1, 1) := by decide +kernel
theorem dX5_feeler_5 : decode cX5_feeler 5 = .ok (.bipush 6, 2) := by decide +kernel
theorem dX5_feeler_7 : decode cX5_feeler 7 = .ok (.if_icmp .le 13, 3) := by decide +kernel
theorem dX5_feeler_10 : decode cX5_feeler 10 = .ok (.new 55, 3) := by decide +kernel
theorem dX5_feeler_13 : decode cX5_feeler 13 = .ok (.dup, 1) := by decide +kernel
theorem dX5_feeler_14 : decode cX5_feeler 14 = .ok (.ldc 211, 2) := by decide +kernel
theorem dX5_feeler_16 : decode cX5_feeler 16 = .ok (.invokespecial 59, 3) := by decide +kernel
theorem dX5_feeler_19 : decode cX5_feeler 19 = .ok (.athrow, 1) := by decide +kernel
theorem dX5_feeler_20 : decode cX5_feeler 20 = .ok (.aload_n 0, 1) := by decide +kernel
theorem dX5_feeler_21 : decode cX5_feeler 21 = .ok (.getfield 10, 3) := by decide +kernel
theorem dX5_feeler_24 : decode cX5_feeler 24 = .ok (.getfield 115, 3) := by decide +kernel
theorem dX5_feeler_27 : decode cX5_feeler 27 = .ok (.iload_n 1, 1) := by decide +kernel
theorem dX5_feeler_28 : decode cX5_feeler 28 = .ok (.invokevirtual 213, 3) := by decide +kernel
theorem dX5_feeler_31 : decode cX5_feeler 31 = .ok (.ireturn, 1) := by decide +kernel
set_option maxRecDepth 20000 in
theorem ggX5_count_X0_sumOfAll : GoodIn wsX5_count wsX0_sumOfAll := goodIn_r _ [19, 20, 21, 22, 18, 23, 24, 25, 26, 27, 28, 29, 30, 31, 32, 33, 58, 59] (by decide +kernel) (by decide +kernel)
set_option maxRecDepth 20000 in
theorem gX5_count_X0_sumOfAll : GoodIn wsX5_count (wsV RX5 225 RX0 yX0_sumOfAll wsX0_sumOfAll) := goodIn_app (goodIn_of _ (by decide +kernel)) ggX5_count_X0_sumOfAll
set_option maxRecDepth 20000 in
theorem ggX5_count_X3_savedCount : GoodIn wsX5_count wsX3_savedCount := goodIn_r _ [38, 39, 60, 61, 62] (by decide +kernel) (by decide +kernel)
set_option maxRecDepth 20000 in
theorem gX5_count_X3_savedCount : GoodIn wsX5_count (wsV RX5 180 RX3 yX3_savedCount wsX3_savedCount) := goodIn_app (goodIn_of _ (by decide +kernel)) ggX5_count_X3_savedCount
theorem dX5_count_0 : decode cX5_count 0 = .ok (.iload_n 1, 1) := by decide +kernel
theorem dX5_count_1 : decode cX5_count 1 = .ok (.tableswitch 178 0 11 #[63, 71, 79, 87, 103, 111, 119, 127, 135, 146, 162, 170], 63) := by decide +kernel
theorem dX5_count_64 : decode cX5_count 64 = .ok (.aload_n 0, 1) := by decide +kernel
theorem dX5_count_65 : decode cX5_count 65 = .ok (.getfield 10, 3) := by decide +kernel
theorem dX5_count_68 : decode cX5_count 68 = .ok (.getfield 175, 3) := by decide +kernel
theorem dX5_count_71 : decode cX5_count 71 = .ok (.ireturn, 1) := by decide +kernel
theorem dX5_count_72 : decode cX5_count 72 = .ok (.aload_n 0, 1) := by decide +kernel
theorem dX5_count_73 : decode cX5_count 73 = .ok (.getfield 10, 3) := by decide +kernel
theorem dX5_count_76 : decode cX5_count 76 = .ok (.getfield 112, 3) := by decide +kernel
theorem dX5_count_79 : decode cX5_count 79 = .ok (.ireturn, 1) := by decide +kernel
theorem dX5_count_80 : decode cX5_count 80 = .ok (.aload_n 0, 1) := by decide +kernel
theorem dX5_count_81 : decode cX5_count 81 = .ok (.getfield 10, 3) := by decide +kernel
theorem dX5_count_84 : decode cX5_count 84 = .ok (.getfield 124, 3) := by decide +kernel
theorem dX5_count_87 : decode cX5_count 87 = .ok (.ireturn, 1) := by decide +kernel
theorem dX5_count_88 : decode cX5_count 88 = .ok (.aload_n 0, 1) := by decide +kernel
theorem dX5_count_89 : decode cX5_count 89 = .ok (.getfield 10, 3) := by decide +kernel
theorem dX5_count_92 : decode cX5_count 92 = .ok (.getfield 135, 3) := by decide +kernel
theorem dX5_count_95 : decode cX5_count 95 = .ok (.ifCond .eq 7, 3) := by decide +kernel
theorem dX5_count_98 : decode cX5_count 98 = .ok (.iconst 1, 1) := by decide +kernel
theorem dX5_count_99 : decode cX5_count 99 = .ok (.goto 4, 3) := by decide +kernel
theorem dX5_count_102 : decode cX5_count 102 = .ok (.iconst 0, 1) := by decide +kernel
theorem dX5_count_103 : decode cX5_count 103 = .ok (.ireturn, 1) := by decide +kernel
theorem dX5_count_104 : decode cX5_count 104 = .ok (.aload_n 0, 1) := by decide +kernel
theorem dX5_count_105 : decode cX5_count 105 = .ok (.getfield 10, 3) := by decide +kernel
theorem dX5_count_108 : decode cX5_count 108 = .ok (.getfield 216, 3) := by decide +kernel
theorem dX5_count_111 : decode cX5_count 111 = .ok (.ireturn, 1) := by decide +kernel
theorem dX5_count_112 : decode cX5_count 112 = .ok (.aload_n 0, 1) := by decide +kernel
theorem dX5_count_113 : decode cX5_count 113 = .ok (.getfield 10, 3) := by decide +kernel
theorem dX5_count_116 : decode cX5_count 116 = .ok (.getfield 219, 3) := by decide +kernel
theorem dX5_count_119 : decode cX5_count 119 = .ok (.ireturn, 1) := by decide +kernel
theorem dX5_count_120 : decode cX5_count 120 = .ok (.aload_n 0, 1) := by decide +kernel
theorem dX5_count_121 : decode cX5_count 121 = .ok (.getfield 10, 3) := by decide +kernel
theorem dX5_count_124 : decode cX5_count 124 = .ok (.getfield 99, 3) := by decide +kernel
theorem dX5_count_127 : decode cX5_count 127 = .ok (.ireturn, 1) := by decide +kernel
theorem dX5_count_128 : decode cX5_count 128 = .ok (.aload_n 0, 1) := by decide +kernel
theorem dX5_count_129 : decode cX5_count 129 = .ok (.getfield 10, 3) := by decide +kernel
theorem dX5_count_132 : decode cX5_count 132 = .ok (.getfield 222, 3) := by decide +kernel
theorem dX5_count_135 : decode cX5_count 135 = .ok (.ireturn, 1) := by decide +kernel
theorem dX5_count_136 : decode cX5_count 136 = .ok (.aload_n 0, 1) := by decide +kernel
theorem dX5_count_137 : decode cX5_count 137 = .ok (.getfield 10, 3) := by decide +kernel
theorem dX5_count_140 : decode cX5_count 140 = .ok (.getfield 60, 3) := by decide +kernel
theorem dX5_count_143 : decode cX5_count 143 = .ok (.invokevirtual 225, 3) := by decide +kernel
theorem dX5_count_146 : decode cX5_count 146 = .ok (.ireturn, 1) := by decide +kernel
theorem dX5_count_147 : decode cX5_count 147 = .ok (.aload_n 0, 1) := by decide +kernel
theorem dX5_count_148 : decode cX5_count 148 = .ok (.getfield 10, 3) := by decide +kernel
theorem dX5_count_151 : decode cX5_count 151 = .ok (.getfield 222, 3) := by decide +kernel
theorem dX5_count_154 : decode cX5_count 154 = .ok (.aload_n 0, 1) := by decide +kernel
theorem dX5_count_155 : decode cX5_count 155 = .ok (.getfield 10, 3) := by decide +kernel
theorem dX5_count_158 : decode cX5_count 158 = .ok (.getfield 99, 3) := by decide +kernel
theorem dX5_count_161 : decode cX5_count 161 = .ok (.isub, 1) := by decide +kernel
theorem dX5_count_162 : decode cX5_count 162 = .ok (.ireturn, 1) := by decide +kernel
theorem dX5_count_163 : decode cX5_count 163 = .ok (.aload_n 0, 1) := by decide +kernel
theorem dX5_count_164 : decode cX5_count 164 = .ok (.getfield 10, 3) := by decide +kernel
theorem dX5_count_167 : decode cX5_count 167 = .ok (.getfield 228, 3) := by decide +kernel
theorem dX5_count_170 : decode cX5_count 170 = .ok (.ireturn, 1) := by decide +kernel
theorem dX5_count_171 : decode cX5_count 171 = .ok (.aload_n 0, 1) := by decide +kernel
theorem dX5_count_172 : decode cX5_count 172 = .ok (.getfield 25, 3) := by decide +kernel
theorem dX5_count_175 : decode cX5_count 175 = .ok (.invokevirtual 180, 3) := by decide +kernel
theorem dX5_count_178 : decode cX5_count 178 = .ok (.ireturn, 1) := by decide +kernel
theorem dX5_count_179 : decode cX5_count 179 = .ok (.new 55, 3) := by decide +kernel
theorem dX5_count_182 : decode cX5_count 182 = .ok (.dup, 1) := by decide +kernel
theorem dX5_count_183 : decode cX5_count 183 = .ok (.ldc 231, 2) := by decide +kernel
theorem dX5_count_185 : decode cX5_count 185 = .ok (.invokespecial 59, 3) := by decide +kernel
theorem dX5_count_188 : decode cX5_count 188 = .ok (.athrow, 1) := by decide +kernel
set_option maxRecDepth 20000 in
theorem ggX5_setting_X5_isSetting : GoodIn wsX5_setting wsX5_isSetting := goodIn_r _ [7] (by decide +kernel) (by decide +kernel)
set_option maxRecDepth 20000 in
theorem gX5_setting_X5_isSetting : GoodIn wsX5_setting (va_wsS RX5 138 yX5_isSetting wsX5_isSetting) := goodIn_app (goodIn_of _ (by decide +kernel)) ggX5_setting_X5_isSetting
set_option maxRecDepth 20000 in
theorem ggX5_setting_X2_settingOf : GoodIn wsX5_setting wsX2_settingOf := goodIn_r _ [12, 13, 20, 21, 22, 23, 24, 25, 26, 27, 28, 29, 30, 31] (by decide +kernel) (by decide +kernel)
set_option maxRecDepth 20000 in
theorem gX5_setting_X2_settingOf : GoodIn wsX5_setting (wsV RX5 149 RX2 yX2_settingOf wsX2_settingOf) := goodIn_app (goodIn_of _ (by decide +kernel)) ggX5_setting_X2_settingOf
theorem dX5_setting_0 : decode cX5_setting 0 = .ok (.iload_n 1, 1) := by decide +kernel
theorem dX5_setting_1 : decode cX5_setting 1 = .ok (.invokestatic 138, 3) := by decide +kernel
theorem dX5_setting_4 : decode cX5_setting 4 = .ok (.ifCond .ne 13, 3) := by decide +kernel
theorem dX5_setting_7 : decode cX5_setting 7 = .ok (.new 44, 3) := by decide +kernel
theorem dX5_setting_10 : decode cX5_setting 10 = .ok (.dup, 1) := by decide +kernel
theorem dX5_setting_11 : decode cX5_setting 11 = .ok (.ldc 141, 2) := by decide +kernel
theorem dX5_setting_13 : decode cX5_setting 13 = .ok (.invokespecial 48, 3) := by decide +kernel
theorem dX5_setting_16 : decode cX5_setting 16 = .ok (.athrow, 1) := by decide +kernel
theorem dX5_setting_17 : decode cX5_setting 17 = .ok (.aload_n 0, 1) := by decide +kernel
theorem dX5_setting_18 : decode cX5_setting 18 = .ok (.getfield 10, 3) := by decide +kernel
theorem dX5_setting_21 : decode cX5_setting 21 = .ok (.iload_n 1, 1) := by decide +kernel
theorem dX5_setting_22 : decode cX5_setting 22 = .ok (.invokevirtual 149, 3) := by decide +kernel
theorem dX5_setting_25 : decode cX5_setting 25 = .ok (.ireturn, 1) := by decide +kernel
set_option maxRecDepth 20000 in
theorem ggX5_why_X2_whyNot : GoodIn wsX5_why wsX2_whyNot := goodIn_r _ [6, 7, 8, 9, 10, 11, 12, 13, 5, 14, 15, 16, 17, 18, 19, 20, 21, 22, 23, 24, 25, 26, 27, 28, 29, 30, 31, 32, 33, 34, 35, 36, 37, 38, 39, 40, 41, 42, 43, 44, 45, 46, 47, 48, 49, 50, 51, 52, 53, 54, 55, 56, 57, 58, 65, 66, 67, 68, 69, 70, 71, 72, 73, 74, 75, 76, 77, 78, 79, 80] (by decide +kernel) (by decide +kernel)
set_option maxRecDepth 20000 in
theorem gX5_why_X2_whyNot : GoodIn wsX5_why (wsV RX5 233 RX2 yX2_whyNot wsX2_whyNot) := goodIn_app (goodIn_of _ (by decide +kernel)) ggX5_why_X2_whyNot
theorem dX5_why_0 : decode cX5_why 0 = .ok (.aload_n 0, 1) := by decide +kernel
theorem dX5_why_1 : decode cX5_why 1 = .ok (.getfield 10, 3) := by decide +kernel
theorem dX5_why_4 : decode cX5_why 4 = .ok (.invokevirtual 233, 3) := by decide +kernel
theorem dX5_why_7 : decode cX5_why 7 = .ok (.ireturn, 1) := by decide +kernel
set_option maxRecDepth 20000 in
theorem ggX5_ifRun_X5_isRunLength : GoodIn wsX5_ifRun wsX5_isRunLength := goodIn_r _ [11] (by decide +kernel) (by decide +kernel)
set_option maxRecDepth 20000 in
theorem gX5_ifRun_X5_isRunLength : GoodIn wsX5_ifRun (va_wsS RX5 127 yX5_isRunLength wsX5_isRunLength) := goodIn_app (goodIn_of _ (by decide +kernel)) ggX5_ifRun_X5_isRunLength
set_option maxRecDepth 20000 in
theorem ggX5_ifRun_X2_copyFrom : GoodIn wsX5_ifRun wsX2_copyFrom := goodIn_r _ [16, 17, 18, 19, 20, 21, 22, 23, 24, 25, 26, 27, 28, 29, 30, 31, 32, 33, 34, 35, 36, 37, 38, 39, 40, 41, 42, 43, 44, 45, 46, 47, 48, 49, 50, 51, 52, 53, 54, 150, 151, 152, 153, 154, 155, 156, 157, 158, 159, 160, 161, 162, 163, 164, 165] (by decide +kernel) (by decide +kernel)
set_option maxRecDepth 20000 in
theorem gX5_ifRun_X2_copyFrom : GoodIn wsX5_ifRun (wsV RX5 172 RX2 yX2_copyFrom wsX2_copyFrom) := goodIn_app (goodIn_of _ (by decide +kernel)) ggX5_ifRun_X2_copyFrom
set_option maxRecDepth 20000 in
theorem ggX5_ifRun_X2_advance : GoodIn wsX5_ifRun wsX2_advance := goodIn_r _ [58, 59, 60, 61, 15, 62, 30, 28, 29, 17, 63, 64, 65, 66, 67, 68, 69, 40, 70, 45, 71, 72, 73, 74, 75, 76, 77, 78, 42, 79, 80, 81, 82, 83, 84, 85, 86, 18, 20, 21, 22, 23, 87, 88, 89, 90, 91, 92, 93, 19, 94, 95, 96, 49, 97, 54, 51, 98, 99, 100, 101, 102, 31, 32, 103, 104, 105, 106, 107, 108, 109, 110, 44, 25, 26, 27, 111, 112, 113, 114, 52, 115, 116, 117, 118, 33, 34, 36, 119, 120, 121, 122, 150, 151, 152, 153, 154, 155, 156, 157, 158, 159, 160, 161, 162, 163, 164, 165] (by decide +kernel) (by decide +kernel)
set_option maxRecDepth 20000 in
theorem gX5_ifRun_X2_advance : GoodIn wsX5_ifRun (wsV RX5 132 RX2 yX2_advance wsX2_advance) := goodIn_app (goodIn_of _ (by decide +kernel)) ggX5_ifRun_X2_advance
set_option maxRecDepth 20000 in
theorem ggX5_ifRun_X0_spreadOf : GoodIn wsX5_ifRun wsX0_spreadOf := goodIn_r _ [126, 127, 128, 129, 40, 130, 131, 88, 22, 89, 79, 80, 81, 82, 45, 75, 76, 77, 78, 42, 132, 133, 134, 135, 43, 21, 23, 162, 163] (by decide +kernel) (by decide +kernel)
set_option maxRecDepth 20000 in
theorem gX5_ifRun_X0_spreadOf : GoodIn wsX5_ifRun (wsV RX5 194 RX0 yX0_spreadOf wsX0_spreadOf) := goodIn_app (goodIn_of _ (by decide +kernel)) ggX5_ifRun_X0_spreadOf
set_option maxRecDepth 20000 in
theorem ggX5_ifRun_X0_stepsOf : GoodIn wsX5_ifRun wsX0_stepsOf := goodIn_r _ [139, 140, 141, 22, 142, 79, 80, 81, 40, 82, 45, 75, 76, 77, 78, 42, 162, 163] (by decide +kernel) (by decide +kernel)
set_option maxRecDepth 20000 in
theorem gX5_ifRun_X0_stepsOf : GoodIn wsX5_ifRun (wsV RX5 197 RX0 yX0_stepsOf wsX0_stepsOf) := goodIn_app (goodIn_of _ (by decide +kernel)) ggX5_ifRun_X0_stepsOf
set_option maxRecDepth 20000 in
theorem ggX5_ifRun_X2_whyNot : GoodIn wsX5_ifRun wsX2_whyNot := goodIn_r _ [62, 30, 28, 29, 17, 63, 64, 65, 15, 66, 67, 68, 69, 40, 70, 45, 71, 72, 73, 74, 75, 76, 77, 78, 42, 79, 80, 81, 82, 83, 84, 85, 86, 18, 20, 21, 22, 23, 87, 88, 89, 90, 91, 92, 93, 19, 94, 95, 96, 49, 97, 54, 51, 98, 150, 151, 152, 153, 154, 155, 156, 157, 158, 159, 160, 161, 162, 163, 164, 165] (by decide +kernel) (by decide +kernel)
set_option maxRecDepth 20000 in
theorem gX5_ifRun_X2_whyNot : GoodIn wsX5_ifRun (wsV RX5 233 RX2 yX2_whyNot wsX2_whyNot) := goodIn_app (goodIn_of _ (by decide +kernel)) ggX5_ifRun_X2_whyNot
theorem dX5_ifRun_0 : decode cX5_ifRun 0 = .ok (.iload_n 1, 1) := by decide +kernel
theorem dX5_ifRun_1 : decode cX5_ifRun 1 = .ok (.invokestatic 127, 3) := by decide +kernel
theorem dX5_ifRun_4 : decode cX5_ifRun 4 = .ok (.ifCond .eq 12, 3) := by decide +kernel
theorem dX5_ifRun_7 : decode cX5_ifRun 7 = .ok (.iload_n 2, 1) := by decide +kernel
theorem dX5_ifRun_8 : decode cX5_ifRun 8 = .ok (.ifCond .lt 8, 3) := by decide +kernel
theorem dX5_ifRun_11 : decode cX5_ifRun 11 = .ok (.iload_n 2, 1) := by decide +kernel
theorem dX5_ifRun_12 : decode cX5_ifRun 12 = .ok (.iconst 5, 1) := by decide +kernel
theorem dX5_ifRun_13 : decode cX5_ifRun 13 = .ok (.if_icmp .lt 13, 3) := by decide +kernel
theorem dX5_ifRun_16 : decode cX5_ifRun 16 = .ok (.new 55, 3) := by decide +kernel
theorem dX5_ifRun_19 : decode cX5_ifRun 19 = .ok (.dup, 1) := by decide +kernel
theorem dX5_ifRun_20 : decode cX5_ifRun 20 = .ok (.ldc 236, 2) := by decide +kernel
theorem dX5_ifRun_22 : decode cX5_ifRun 22 = .ok (.invokespecial 59, 3) := by decide +kernel
theorem dX5_ifRun_25 : decode cX5_ifRun 25 = .ok (.athrow, 1) := by decide +kernel
theorem dX5_ifRun_26 : decode cX5_ifRun 26 = .ok (.aload_n 0, 1) := by decide +kernel
theorem dX5_ifRun_27 : decode cX5_ifRun 27 = .ok (.getfield 19, 3) := by decide +kernel
theorem dX5_ifRun_30 : decode cX5_ifRun 30 = .ok (.aload_n 0, 1) := by decide +kernel
theorem dX5_ifRun_31 : decode cX5_ifRun 31 = .ok (.getfield 10, 3) := by decide +kernel
theorem dX5_ifRun_34 : decode cX5_ifRun 34 = .ok (.invokevirtual 172, 3) := by decide +kernel
theorem dX5_ifRun_37 : decode cX5_ifRun 37 = .ok (.aload_n 0, 1) := by decide +kernel
theorem dX5_ifRun_38 : decode cX5_ifRun 38 = .ok (.getfield 19, 3) := by decide +kernel
theorem dX5_ifRun_41 : decode cX5_ifRun 41 = .ok (.iload_n 1, 1) := by decide +kernel
theorem dX5_ifRun_42 : decode cX5_ifRun 42 = .ok (.invokevirtual 132, 3) := by decide +kernel
theorem dX5_ifRun_45 : decode cX5_ifRun 45 = .ok (.istore_n 3, 1) := by decide +kernel
theorem dX5_ifRun_46 : decode cX5_ifRun 46 = .ok (.iload_n 2, 1) := by decide +kernel
theorem dX5_ifRun_47 : decode cX5_ifRun 47 = .ok (.tableswitch 83 0 3 #[29, 31, 49, 67], 29) := by decide +kernel
theorem dX5_ifRun_76 : decode cX5_ifRun 76 = .ok (.iload_n 3, 1) := by decide +kernel
theorem dX5_ifRun_77 : decode cX5_ifRun 77 = .ok (.ireturn, 1) := by decide +kernel
theorem dX5_ifRun_78 : decode cX5_ifRun 78 = .ok (.aload_n 0, 1) := by decide +kernel
theorem dX5_ifRun_79 : decode cX5_ifRun 79 = .ok (.getfield 19, 3) := by decide +kernel
theorem dX5_ifRun_82 : decode cX5_ifRun 82 = .ok (.getfield 60, 3) := by decide +kernel
theorem dX5_ifRun_85 : decode cX5_ifRun 85 = .ok (.aload_n 0, 1) := by decide +kernel
theorem dX5_ifRun_86 : decode cX5_ifRun 86 = .ok (.getfield 19, 3) := by decide +kernel
theorem dX5_ifRun_89 : decode cX5_ifRun 89 = .ok (.getfield 124, 3) := by decide +kernel
theorem dX5_ifRun_92 : decode cX5_ifRun 92 = .ok (.invokevirtual 194, 3) := by decide +kernel
theorem dX5_ifRun_95 : decode cX5_ifRun 95 = .ok (.ireturn, 1) := by decide +kernel
theorem dX5_ifRun_96 : decode cX5_ifRun 96 = .ok (.aload_n 0, 1) := by decide +kernel
theorem dX5_ifRun_97 : decode cX5_ifRun 97 = .ok (.getfield 19, 3) := by decide +kernel
theorem dX5_ifRun_100 : decode cX5_ifRun 100 = .ok (.getfield 60, 3) := by decide +kernel
theorem dX5_ifRun_103 : decode cX5_ifRun 103 = .ok (.aload_n 0, 1) := by decide +kernel
theorem dX5_ifRun_104 : decode cX5_ifRun 104 = .ok (.getfield 19, 3) := by decide +kernel
theorem dX5_ifRun_107 : decode cX5_ifRun 107 = .ok (.getfield 124, 3) := by decide +kernel
theorem dX5_ifRun_110 : decode cX5_ifRun 110 = .ok (.invokevirtual 197, 3) := by decide +kernel
theorem dX5_ifRun_113 : decode cX5_ifRun 113 = .ok (.ireturn, 1) := by decide +kernel
theorem dX5_ifRun_114 : decode cX5_ifRun 114 = .ok (.aload_n 0, 1) := by decide +kernel
theorem dX5_ifRun_115 : decode cX5_ifRun 115 = .ok (.getfield 19, 3) := by decide +kernel
theorem dX5_ifRun_118 : decode cX5_ifRun 118 = .ok (.getfield 99, 3) := by decide +kernel
theorem dX5_ifRun_121 : decode cX5_ifRun 121 = .ok (.aload_n 0, 1) := by decide +kernel
theorem dX5_ifRun_122 : decode cX5_ifRun 122 = .ok (.getfield 10, 3) := by decide +kernel
theorem dX5_ifRun_125 : decode cX5_ifRun 125 = .ok (.getfield 99, 3) := by decide +kernel
theorem dX5_ifRun_128 : decode cX5_ifRun 128 = .ok (.isub, 1) := by decide +kernel
theorem dX5_ifRun_129 : decode cX5_ifRun 129 = .ok (.ireturn, 1) := by decide +kernel
theorem dX5_ifRun_130 : decode cX5_ifRun 130 = .ok (.aload_n 0, 1) := by decide +kernel
theorem dX5_ifRun_131 : decode cX5_ifRun 131 = .ok (.getfield 19, 3) := by decide +kernel
theorem dX5_ifRun_134 : decode cX5_ifRun 134 = .ok (.invokevirtual 233, 3) := by decide +kernel
theorem dX5_ifRun_137 : decode cX5_ifRun 137 = .ok (.ireturn, 1) := by decide +kernel
set_option maxRecDepth 20000 in
theorem ggX5_bestLag_X5_isRunLength : GoodIn wsX5_bestLag wsX5_isRunLength := goodIn_r _ [10] (by decide +kernel) (by decide +kernel)
set_option maxRecDepth 20000 in
theorem gX5_bestLag_X5_isRunLength : GoodIn wsX5_bestLag (va_wsS RX5 127 yX5_isRunLength wsX5_isRunLength) := goodIn_app (goodIn_of _ (by decide +kernel)) ggX5_bestLag_X5_isRunLength
set_option maxRecDepth 20000 in
theorem ggX5_bestLag_X2_copyFrom : GoodIn wsX5_bestLag wsX2_copyFrom := goodIn_r _ [15, 16, 17, 18, 19, 20, 21, 22, 23, 24, 25, 26, 27, 28, 29, 30, 31, 32, 33, 34, 35, 36, 37, 38, 39, 40, 41, 42, 43, 44, 45, 46, 47, 48, 49, 50, 51, 52, 53, 139, 140, 141, 142, 143, 144, 145, 146, 147, 148, 149, 150, 151, 152, 153, 154] (by decide +kernel) (by decide +kernel)
set_option maxRecDepth 20000 in
theorem gX5_bestLag_X2_copyFrom : GoodIn wsX5_bestLag (wsV RX5 172 RX2 yX2_copyFrom wsX2_copyFrom) := goodIn_app (goodIn_of _ (by decide +kernel)) ggX5_bestLag_X2_copyFrom
set_option maxRecDepth 20000 in
theorem ggX5_bestLag_X2_changeSetting : GoodIn wsX5_bestLag wsX2_changeSetting := goodIn_r _ [57, 18, 139, 140, 141, 142, 143, 144, 145, 146, 147, 148, 149, 150] (by decide +kernel) (by decide +kernel)
set_option maxRecDepth 20000 in
theorem gX5_bestLag_X2_changeSetting : GoodIn wsX5_bestLag (wsV RX5 152 RX2 yX2_changeSetting wsX2_changeSetting) := goodIn_app (goodIn_of _ (by decide +kernel)) ggX5_bestLag_X2_changeSetting
set_option maxRecDepth 20000 in
theorem ggX5_bestLag_X2_advance : GoodIn wsX5_bestLag wsX2_advance := goodIn_r _ [61, 62, 63, 64, 14, 65, 29, 27, 28, 16, 66, 67, 68, 69, 70, 71, 72, 39, 73, 44, 74, 75, 76, 77, 78, 79, 80, 81, 41, 82, 83, 84, 85, 86, 87, 88, 89, 17, 19, 20, 21, 22, 90, 91, 92, 93, 94, 95, 96, 18, 97, 98, 99, 48, 100, 53, 50, 101, 102, 103, 104, 105, 30, 31, 106, 107, 108, 109, 110, 111, 112, 113, 43, 24, 25, 26, 114, 115, 116, 117, 51, 118, 119, 120, 121, 32, 33, 35, 122, 123, 124, 125, 139, 140, 141, 142, 143, 144, 145, 146, 147, 148, 149, 150, 151, 152, 153, 154] (by decide +kernel) (by decide +kernel)
set_option maxRecDepth 20000 in
theorem gX5_bestLag_X2_advance : GoodIn wsX5_bestLag (wsV RX5 132 RX2 yX2_advance wsX2_advance) := goodIn_app (goodIn_of _ (by decide +kernel)) ggX5_bestLag_X2_advance
set_option maxRecDepth 20000 in
theorem ggX5_bestLag_X0_stepsOf : GoodIn wsX5_bestLag wsX0_stepsOf := goodIn_r _ [129, 130, 131, 21, 132, 82, 83, 84, 39, 85, 44, 78, 79, 80, 81, 41, 151, 152] (by decide +kernel) (by decide +kernel)
set_option maxRecDepth 20000 in
theorem gX5_bestLag_X0_stepsOf : GoodIn wsX5_bestLag (wsV RX5 197 RX0 yX0_stepsOf wsX0_stepsOf) := goodIn_app (goodIn_of _ (by decide +kernel)) ggX5_bestLag_X0_stepsOf
theorem dX5_bestLag_0 : decode cX5_bestLag 0 = .ok (.iload_n 1, 1) := by decide +kernel
theorem dX5_bestLag_1 : decode cX5_bestLag 1 = .ok (.invokestatic 127, 3) := by decide +kernel
theorem dX5_bestLag_4 : decode cX5_bestLag 4 = .ok (.ifCond .ne 13, 3) := by decide +kernel
theorem dX5_bestLag_7 : decode cX5_bestLag 7 = .ok (.new 55, 3) := by decide +kernel
theorem dX5_bestLag_10 : decode cX5_bestLag 10 = .ok (.dup, 1) := by decide +kernel
theorem dX5_bestLag_11 : decode cX5_bestLag 11 = .ok (.ldc 130, 2) := by decide +kernel
theorem dX5_bestLag_13 : decode cX5_bestLag 13 = .ok (.invokespecial 59, 3) := by decide +kernel
theorem dX5_bestLag_16 : decode cX5_bestLag 16 = .ok (.athrow, 1) := by decide +kernel
theorem dX5_bestLag_17 : decode cX5_bestLag 17 = .ok (.iconst 0, 1) := by decide +kernel
theorem dX5_bestLag_18 : decode cX5_bestLag 18 = .ok (.istore_n 2, 1) := by decide +kernel
theorem dX5_bestLag_19 : decode cX5_bestLag 19 = .ok (.iconst 0, 1) := by decide +kernel
theorem dX5_bestLag_20 : decode cX5_bestLag 20 = .ok (.istore_n 3, 1) := by decide +kernel
theorem dX5_bestLag_21 : decode cX5_bestLag 21 = .ok (.iconst 0, 1) := by decide +kernel
theorem dX5_bestLag_22 : decode cX5_bestLag 22 = .ok (.istore 4, 2) := by decide +kernel
theorem dX5_bestLag_24 : decode cX5_bestLag 24 = .ok (.iload 4, 2) := by decide +kernel
theorem dX5_bestLag_26 : decode cX5_bestLag 26 = .ok (.bipush 6, 2) := by decide +kernel
theorem dX5_bestLag_28 : decode cX5_bestLag 28 = .ok (.if_icmp .gt 75, 3) := by decide +kernel
theorem dX5_bestLag_31 : decode cX5_bestLag 31 = .ok (.aload_n 0, 1) := by decide +kernel
theorem dX5_bestLag_32 : decode cX5_bestLag 32 = .ok (.getfield 19, 3) := by decide +kernel
theorem dX5_bestLag_35 : decode cX5_bestLag 35 = .ok (.aload_n 0, 1) := by decide +kernel
theorem dX5_bestLag_36 : decode cX5_bestLag 36 = .ok (.getfield 10, 3) := by decide +kernel
theorem dX5_bestLag_39 : decode cX5_bestLag 39 = .ok (.invokevirtual 172, 3) := by decide +kernel
theorem dX5_bestLag_42 : decode cX5_bestLag 42 = .ok (.aload_n 0, 1) := by decide +kernel
theorem dX5_bestLag_43 : decode cX5_bestLag 43 = .ok (.getfield 19, 3) := by decide +kernel
theorem dX5_bestLag_46 : decode cX5_bestLag 46 = .ok (.iconst 0, 1) := by decide +kernel
theorem dX5_bestLag_47 : decode cX5_bestLag 47 = .ok (.iload 4, 2) := by decide +kernel
theorem dX5_bestLag_49 : decode cX5_bestLag 49 = .ok (.invokevirtual 152, 3) := by decide +kernel
theorem dX5_bestLag_52 : decode cX5_bestLag 52 = .ok (.aload_n 0, 1) := by decide +kernel
theorem dX5_bestLag_53 : decode cX5_bestLag 53 = .ok (.getfield 19, 3) := by decide +kernel
theorem dX5_bestLag_56 : decode cX5_bestLag 56 = .ok (.iload_n 1, 1) := by decide +kernel
theorem dX5_bestLag_57 : decode cX5_bestLag 57 = .ok (.invokevirtual 132, 3) := by decide +kernel
theorem dX5_bestLag_60 : decode cX5_bestLag 60 = .ok (.pop, 1) := by decide +kernel
theorem dX5_bestLag_61 : decode cX5_bestLag 61 = .ok (.aload_n 0, 1) := by decide +kernel
theorem dX5_bestLag_62 : decode cX5_bestLag 62 = .ok (.getfield 19, 3) := by decide +kernel
theorem dX5_bestLag_65 : decode cX5_bestLag 65 = .ok (.getfield 60, 3) := by decide +kernel
theorem dX5_bestLag_68 : decode cX5_bestLag 68 = .ok (.aload_n 0, 1) := by decide +kernel
theorem dX5_bestLag_69 : decode cX5_bestLag 69 = .ok (.getfield 19, 3) := by decide +kernel
theorem dX5_bestLag_72 : decode cX5_bestLag 72 = .ok (.getfield 124, 3) := by decide +kernel
theorem dX5_bestLag_75 : decode cX5_bestLag 75 = .ok (.invokevirtual 197, 3) := by decide +kernel
theorem dX5_bestLag_78 : decode cX5_bestLag 78 = .ok (.istore 5, 2) := by decide +kernel
theorem dX5_bestLag_80 : decode cX5_bestLag 80 = .ok (.iload 4, 2) := by decide +kernel
theorem dX5_bestLag_82 : decode cX5_bestLag 82 = .ok (.ifCond .eq 9, 3) := by decide +kernel
theorem dX5_bestLag_85 : decode cX5_bestLag 85 = .ok (.iload 5, 2) := by decide +kernel
theorem dX5_bestLag_87 : decode cX5_bestLag 87 = .ok (.iload_n 3, 1) := by decide +kernel
theorem dX5_bestLag_88 : decode cX5_bestLag 88 = .ok (.if_icmp .ge 9, 3) := by decide +kernel
theorem dX5_bestLag_91 : decode cX5_bestLag 91 = .ok (.iload 5, 2) := by decide +kernel
theorem dX5_bestLag_93 : decode cX5_bestLag 93 = .ok (.istore_n 3, 1) := by decide +kernel
theorem dX5_bestLag_94 : decode cX5_bestLag 94 = .ok (.iload 4, 2) := by decide +kernel
theorem dX5_bestLag_96 : decode cX5_bestLag 96 = .ok (.istore_n 2, 1) := by decide +kernel
theorem dX5_bestLag_97 : decode cX5_bestLag 97 = .ok (.iinc 4 1, 3) := by decide +kernel
theorem dX5_bestLag_100 : decode cX5_bestLag 100 = .ok (.goto (-76), 3) := by decide +kernel
theorem dX5_bestLag_103 : decode cX5_bestLag 103 = .ok (.iload_n 2, 1) := by decide +kernel
theorem dX5_bestLag_104 : decode cX5_bestLag 104 = .ok (.ireturn, 1) := by decide +kernel
set_option maxRecDepth 20000 in
theorem ggX5_bestFeed_X2_settingOf : GoodIn wsX5_bestFeed wsX2_settingOf := goodIn_r _ [14, 15, 48, 49, 50, 51, 52, 53, 54, 55, 56, 57, 58, 59] (by decide +kernel) (by decide +kernel)
set_option maxRecDepth 20000 in
theorem gX5_bestFeed_X2_settingOf : GoodIn wsX5_bestFeed (wsV RX5 149 RX2 yX2_settingOf wsX2_settingOf) := goodIn_app (goodIn_of _ (by decide +kernel)) ggX5_bestFeed_X2_settingOf
set_option maxRecDepth 20000 in
theorem ggX5_bestFeed_X0_maskOfFilled : GoodIn wsX5_bestFeed wsX0_maskOfFilled := goodIn_r _ [20, 21, 60, 61] (by decide +kernel) (by decide +kernel)
set_option maxRecDepth 20000 in
theorem gX5_bestFeed_X0_maskOfFilled : GoodIn wsX5_bestFeed (wsV RX5 240 RX0 yX0_maskOfFilled wsX0_maskOfFilled) := goodIn_app (goodIn_of _ (by decide +kernel)) ggX5_bestFeed_X0_maskOfFilled
set_option maxRecDepth 20000 in
theorem ggX5_bestFeed_J6_bitCount_0f7a4 : GoodIn wsX5_bestFeed wsJ6_bitCount_0f7a4 := goodIn_r _ [25, 26, 27, 28] (by decide +kernel) (by decide +kernel)
set_option maxRecDepth 20000 in
theorem gX5_bestFeed_J6_bitCount_0f7a4 : GoodIn wsX5_bestFeed (va_wsS RX5 243 yJ6_bitCount_0f7a4 wsJ6_bitCount_0f7a4) := goodIn_app (goodIn_of _ (by decide +kernel)) ggX5_bestFeed_J6_bitCount_0f7a4
set_option maxRecDepth 20000 in
theorem ggX5_bestFeed_X0_frontsOf : GoodIn wsX5_bestFeed wsX0_frontsOf := goodIn_r _ [32, 33, 34, 35, 19, 36, 37, 38, 39, 40, 41, 21, 60, 61] (by decide +kernel) (by decide +kernel)
set_option maxRecDepth 20000 in
theorem gX5_bestFeed_X0_frontsOf : GoodIn wsX5_bestFeed (wsV RX5 248 RX0 yX0_frontsOf wsX0_frontsOf) := goodIn_app (goodIn_of _ (by decide +kernel)) ggX5_bestFeed_X0_frontsOf
theorem dX5_bestFeed_0 : decode cX5_bestFeed 0 = .ok (.iload_n 1, 1) := by decide +kernel
theorem dX5_bestFeed_1 : decode cX5_bestFeed 1 = .ok (.iconst 1, 1) := by decide +kernel
theorem dX5_bestFeed_2 : decode cX5_bestFeed 2 = .ok (.if_icmp .lt 9, 3) := by decide +kernel
theorem dX5_bestFeed_5 : decode cX5_bestFeed 5 = .ok (.iload_n 1, 1) := by decide +kernel
theorem dX5_bestFeed_6 : decode cX5_bestFeed 6 = .ok (.bipush 6, 2) := by decide +kernel
theorem dX5_bestFeed_8 : decode cX5_bestFeed 8 = .ok (.if_icmp .le 13, 3) := by decide +kernel
theorem dX5_bestFeed_11 : decode cX5_bestFeed 11 = .ok (.new 55, 3) := by decide +kernel
theorem dX5_bestFeed_14 : decode cX5_bestFeed 14 = .ok (.dup, 1) := by decide +kernel
theorem dX5_bestFeed_15 : decode cX5_bestFeed 15 = .ok (.ldc 238, 2) := by decide +kernel
theorem dX5_bestFeed_17 : decode cX5_bestFeed 17 = .ok (.invokespecial 59, 3) := by decide +kernel
theorem dX5_bestFeed_20 : decode cX5_bestFeed 20 = .ok (.athrow, 1) := by decide +kernel
theorem dX5_bestFeed_21 : decode cX5_bestFeed 21 = .ok (.aload_n 0, 1) := by decide +kernel
theorem dX5_bestFeed_22 : decode cX5_bestFeed 22 = .ok (.getfield 10, 3) := by decide +kernel
theorem dX5_bestFeed_25 : decode cX5_bestFeed 25 = .ok (.iconst 1, 1) := by decide +kernel
theorem dX5_bestFeed_26 : decode cX5_bestFeed 26 = .ok (.invokevirtual 149, 3) := by decide +kernel
theorem dX5_bestFeed_29 : decode cX5_bestFeed 29 = .ok (.aload_n 0, 1) := by decide +kernel
theorem dX5_bestFeed_30 : decode cX5_bestFeed 30 = .ok (.getfield 10, 3) := by decide +kernel
theorem dX5_bestFeed_33 : decode cX5_bestFeed 33 = .ok (.iconst 2, 1) := by decide +kernel
theorem dX5_bestFeed_34 : decode cX5_bestFeed 34 = .ok (.invokevirtual 149, 3) := by decide +kernel
theorem dX5_bestFeed_37 : decode cX5_bestFeed 37 = .ok (.imul, 1) := by decide +kernel
theorem dX5_bestFeed_38 : decode cX5_bestFeed 38 = .ok (.istore_n 2, 1) := by decide +kernel
theorem dX5_bestFeed_39 : decode cX5_bestFeed 39 = .ok (.aload_n 0, 1) := by decide +kernel
theorem dX5_bestFeed_40 : decode cX5_bestFeed 40 = .ok (.getfield 10, 3) := by decide +kernel
theorem dX5_bestFeed_43 : decode cX5_bestFeed 43 = .ok (.getfield 60, 3) := by decide +kernel
theorem dX5_bestFeed_46 : decode cX5_bestFeed 46 = .ok (.invokevirtual 240, 3) := by decide +kernel
theorem dX5_bestFeed_49 : decode cX5_bestFeed 49 = .ok (.iconst (-1), 1) := by decide +kernel
theorem dX5_bestFeed_50 : decode cX5_bestFeed 50 = .ok (.ixor, 1) := by decide +kernel
theorem dX5_bestFeed_51 : decode cX5_bestFeed 51 = .ok (.iconst 1, 1) := by decide +kernel
theorem dX5_bestFeed_52 : decode cX5_bestFeed 52 = .ok (.aload_n 0, 1) := by decide +kernel
theorem dX5_bestFeed_53 : decode cX5_bestFeed 53 = .ok (.getfield 10, 3) := by decide +kernel
theorem dX5_bestFeed_56 : decode cX5_bestFeed 56 = .ok (.getfield 124, 3) := by decide +kernel
theorem dX5_bestFeed_59 : decode cX5_bestFeed 59 = .ok (.ishl, 1) := by decide +kernel
theorem dX5_bestFeed_60 : decode cX5_bestFeed 60 = .ok (.ior, 1) := by decide +kernel
theorem dX5_bestFeed_61 : decode cX5_bestFeed 61 = .ok (.istore_n 3, 1) := by decide +kernel
theorem dX5_bestFeed_62 : decode cX5_bestFeed 62 = .ok (.iconst (-1), 1) := by decide +kernel
theorem dX5_bestFeed_63 : decode cX5_bestFeed 63 = .ok (.istore 4, 2) := by decide +kernel
theorem dX5_bestFeed_65 : decode cX5_bestFeed 65 = .ok (.iconst 0, 1) := by decide +kernel
theorem dX5_bestFeed_66 : decode cX5_bestFeed 66 = .ok (.istore 5, 2) := by decide +kernel
theorem dX5_bestFeed_68 : decode cX5_bestFeed 68 = .ok (.iconst 1, 1) := by decide +kernel
theorem dX5_bestFeed_69 : decode cX5_bestFeed 69 = .ok (.istore 6, 2) := by decide +kernel
theorem dX5_bestFeed_71 : decode cX5_bestFeed 71 = .ok (.iload 6, 2) := by decide +kernel
theorem dX5_bestFeed_73 : decode cX5_bestFeed 73 = .ok (.sipush 256, 3) := by decide +kernel
theorem dX5_bestFeed_76 : decode cX5_bestFeed 76 = .ok (.if_icmp .ge 65, 3) := by decide +kernel
theorem dX5_bestFeed_79 : decode cX5_bestFeed 79 = .ok (.iload 6, 2) := by decide +kernel
theorem dX5_bestFeed_81 : decode cX5_bestFeed 81 = .ok (.iload_n 3, 1) := by decide +kernel
theorem dX5_bestFeed_82 : decode cX5_bestFeed 82 = .ok (.iand, 1) := by decide +kernel
theorem dX5_bestFeed_83 : decode cX5_bestFeed 83 = .ok (.ifCond .ne 52, 3) := by decide +kernel
theorem dX5_bestFeed_86 : decode cX5_bestFeed 86 = .ok (.iload 6, 2) := by decide +kernel
theorem dX5_bestFeed_88 : decode cX5_bestFeed 88 = .ok (.invokestatic 243, 3) := by decide +kernel
theorem dX5_bestFeed_91 : decode cX5_bestFeed 91 = .ok (.iload_n 1, 1) := by decide +kernel
theorem dX5_bestFeed_92 : decode cX5_bestFeed 92 = .ok (.if_icmp .ne 43, 3) := by decide +kernel
theorem dX5_bestFeed_95 : decode cX5_bestFeed 95 = .ok (.aload_n 0, 1) := by decide +kernel
theorem dX5_bestFeed_96 : decode cX5_bestFeed 96 = .ok (.getfield 10, 3) := by decide +kernel
theorem dX5_bestFeed_99 : decode cX5_bestFeed 99 = .ok (.getfield 60, 3) := by decide +kernel
theorem dX5_bestFeed_102 : decode cX5_bestFeed 102 = .ok (.iload 6, 2) := by decide +kernel
theorem dX5_bestFeed_104 : decode cX5_bestFeed 104 = .ok (.invokevirtual 248, 3) := by decide +kernel
theorem dX5_bestFeed_107 : decode cX5_bestFeed 107 = .ok (.iload_n 2, 1) := by decide +kernel
theorem dX5_bestFeed_108 : decode cX5_bestFeed 108 = .ok (.isub, 1) := by decide +kernel
theorem dX5_bestFeed_109 : decode cX5_bestFeed 109 = .ok (.invokestatic 251, 3) := by decide +kernel
theorem dX5_bestFeed_112 : decode cX5_bestFeed 112 = .ok (.istore 7, 2) := by decide +kernel
theorem dX5_bestFeed_114 : decode cX5_bestFeed 114 = .ok (.iload 4, 2) := by decide +kernel
theorem dX5_bestFeed_116 : decode cX5_bestFeed 116 = .ok (.iconst (-1), 1) := by decide +kernel
theorem dX5_bestFeed_117 : decode cX5_bestFeed 117 = .ok (.if_icmp .eq 10, 3) := by decide +kernel
theorem dX5_bestFeed_120 : decode cX5_bestFeed 120 = .ok (.iload 7, 2) := by decide +kernel
theorem dX5_bestFeed_122 : decode cX5_bestFeed 122 = .ok (.iload 5, 2) := by decide +kernel
theorem dX5_bestFeed_124 : decode cX5_bestFeed 124 = .ok (.if_icmp .ge 11, 3) := by decide +kernel
theorem dX5_bestFeed_127 : decode cX5_bestFeed 127 = .ok (.iload 7, 2) := by decide +kernel
theorem dX5_bestFeed_129 : decode cX5_bestFeed 129 = .ok (.istore 5, 2) := by decide +kernel
theorem dX5_bestFeed_131 : decode cX5_bestFeed 131 = .ok (.iload 6, 2) := by decide +kernel
theorem dX5_bestFeed_133 : decode cX5_bestFeed 133 = .ok (.istore 4, 2) := by decide +kernel
theorem dX5_bestFeed_135 : decode cX5_bestFeed 135 = .ok (.iinc 6 1, 3) := by decide +kernel
theorem dX5_bestFeed_138 : decode cX5_bestFeed 138 = .ok (.goto (-67), 3) := by decide +kernel
theorem dX5_bestFeed_141 : decode cX5_bestFeed 141 = .ok (.iload 4, 2) := by decide +kernel
theorem dX5_bestFeed_143 : decode cX5_bestFeed 143 = .ok (.ireturn, 1) := by decide +kernel
theorem dX5_wasteShare_0 : decode cX5_wasteShare 0 = .ok (.aload_n 0, 1) := by decide +kernel
theorem dX5_wasteShare_1 : decode cX5_wasteShare 1 = .ok (.getfield 10, 3) := by decide +kernel
theorem dX5_wasteShare_4 : decode cX5_wasteShare 4 = .ok (.getfield 222, 3) := by decide +kernel
theorem dX5_wasteShare_7 : decode cX5_wasteShare 7 = .ok (.ifCond .ne 7, 3) := by decide +kernel
theorem dX5_wasteShare_10 : decode cX5_wasteShare 10 = .ok (.fconst 0, 1) := by decide +kernel
theorem dX5_wasteShare_11 : decode cX5_wasteShare 11 = .ok (.goto 20, 3) := by decide +kernel
theorem dX5_wasteShare_14 : decode cX5_wasteShare 14 = .ok (.aload_n 0, 1) := by decide +kernel
theorem dX5_wasteShare_15 : decode cX5_wasteShare 15 = .ok (.getfield 10, 3) := by decide +kernel
theorem dX5_wasteShare_18 : decode cX5_wasteShare 18 = .ok (.getfield 99, 3) := by decide +kernel
theorem dX5_wasteShare_21 : decode cX5_wasteShare 21 = .ok (.i2f, 1) := by decide +kernel
theorem dX5_wasteShare_22 : decode cX5_wasteShare 22 = .ok (.aload_n 0, 1) := by decide +kernel
theorem dX5_wasteShare_23 : decode cX5_wasteShare 23 = .ok (.getfield 10, 3) := by decide +kernel
theorem dX5_wasteShare_26 : decode cX5_wasteShare 26 = .ok (.getfield 222, 3) := by decide +kernel
theorem dX5_wasteShare_29 : decode cX5_wasteShare 29 = .ok (.i2f, 1) := by decide +kernel
theorem dX5_wasteShare_30 : decode cX5_wasteShare 30 = .ok (.fdiv, 1) := by decide +kernel
theorem dX5_wasteShare_31 : decode cX5_wasteShare 31 = .ok (.freturn, 1) := by decide +kernel
theorem dX5_isCan_0 : decode cX5_isCan 0 = .ok (.iload_n 0, 1) := by decide +kernel
theorem dX5_isCan_1 : decode cX5_isCan 1 = .ok (.ifCond .lt 13, 3) := by decide +kernel
theorem dX5_isCan_4 : decode cX5_isCan 4 = .ok (.iload_n 0, 1) := by decide +kernel
theorem dX5_isCan_5 : decode cX5_isCan 5 = .ok (.bipush 8, 2) := by decide +kernel
theorem dX5_isCan_7 : decode cX5_isCan 7 = .ok (.if_icmp .ge 7, 3) := by decide +kernel
theorem dX5_isCan_10 : decode cX5_isCan 10 = .ok (.iconst 1, 1) := by decide +kernel
theorem dX5_isCan_11 : decode cX5_isCan 11 = .ok (.goto 4, 3) := by decide +kernel
theorem dX5_isCan_14 : decode cX5_isCan 14 = .ok (.iconst 0, 1) := by decide +kernel
theorem dX5_isCan_15 : decode cX5_isCan 15 = .ok (.ireturn, 1) := by decide +kernel
theorem dX5_isSetting_0 : decode cX5_isSetting 0 = .ok (.iload_n 0, 1) := by decide +kernel
theorem dX5_isSetting_1 : decode cX5_isSetting 1 = .ok (.ifCond .lt 12, 3) := by decide +kernel
theorem dX5_isSetting_4 : decode cX5_isSetting 4 = .ok (.iload_n 0, 1) := by decide +kernel
theorem dX5_isSetting_5 : decode cX5_isSetting 5 = .ok (.iconst 5, 1) := by decide +kernel
theorem dX5_isSetting_6 : decode cX5_isSetting 6 = .ok (.if_icmp .ge 7, 3) := by decide +kernel
theorem dX5_isSetting_9 : decode cX5_isSetting 9 = .ok (.iconst 1, 1) := by decide +kernel
theorem dX5_isSetting_10 : decode cX5_isSetting 10 = .ok (.goto 4, 3) := by decide +kernel
theorem dX5_isSetting_13 : decode cX5_isSetting 13 = .ok (.iconst 0, 1) := by decide +kernel
theorem dX5_isSetting_14 : decode cX5_isSetting 14 = .ok (.ireturn, 1) := by decide +kernel
theorem dX5_isValue_0 : decode cX5_isValue 0 = .ok (.iload_n 0, 1) := by decide +kernel
theorem dX5_isValue_1 : decode cX5_isValue 1 = .ok (.ifCond .lt 41, 3) := by decide +kernel
theorem dX5_isValue_4 : decode cX5_isValue 4 = .ok (.iload_n 0, 1) := by decide +kernel
theorem dX5_isValue_5 : decode cX5_isValue 5 = .ok (.getstatic 317, 3) := by decide +kernel
theorem dX5_isValue_8 : decode cX5_isValue 8 = .ok (.arraylength, 1) := by decide +kernel
theorem dX5_isValue_9 : decode cX5_isValue 9 = .ok (.if_icmp .ge 33, 3) := by decide +kernel
theorem dX5_isValue_12 : decode cX5_isValue 12 = .ok (.iload_n 0, 1) := by decide +kernel
theorem dX5_isValue_13 : decode cX5_isValue 13 = .ok (.getstatic 321, 3) := by decide +kernel
theorem dX5_isValue_16 : decode cX5_isValue 16 = .ok (.arraylength, 1) := by decide +kernel
theorem dX5_isValue_17 : decode cX5_isValue 17 = .ok (.if_icmp .ge 25, 3) := by decide +kernel
theorem dX5_isValue_20 : decode cX5_isValue 20 = .ok (.iload_n 1, 1) := by decide +kernel
theorem dX5_isValue_21 : decode cX5_isValue 21 = .ok (.getstatic 317, 3) := by decide +kernel
theorem dX5_isValue_24 : decode cX5_isValue 24 = .ok (.iload_n 0, 1) := by decide +kernel
theorem dX5_isValue_25 : decode cX5_isValue 25 = .ok (.iaload, 1) := by decide +kernel
theorem dX5_isValue_26 : decode cX5_isValue 26 = .ok (.if_icmp .lt 16, 3) := by decide +kernel
theorem dX5_isValue_29 : decode cX5_isValue 29 = .ok (.iload_n 1, 1) := by decide +kernel
theorem dX5_isValue_30 : decode cX5_isValue 30 = .ok (.getstatic 321, 3) := by decide +kernel
theorem dX5_isValue_33 : decode cX5_isValue 33 = .ok (.iload_n 0, 1) := by decide +kernel
theorem dX5_isValue_34 : decode cX5_isValue 34 = .ok (.iaload, 1) := by decide +kernel
theorem dX5_isValue_35 : decode cX5_isValue 35 = .ok (.if_icmp .gt 7, 3) := by decide +kernel
theorem dX5_isValue_38 : decode cX5_isValue 38 = .ok (.iconst 1, 1) := by decide +kernel
theorem dX5_isValue_39 : decode cX5_isValue 39 = .ok (.goto 4, 3) := by decide +kernel
theorem dX5_isValue_42 : decode cX5_isValue 42 = .ok (.iconst 0, 1) := by decide +kernel
theorem dX5_isValue_43 : decode cX5_isValue 43 = .ok (.ireturn, 1) := by decide +kernel
theorem dX5_isRunLength_0 : decode cX5_isRunLength 0 = .ok (.iload_n 0, 1) := by decide +kernel
theorem dX5_isRunLength_1 : decode cX5_isRunLength 1 = .ok (.iconst 1, 1) := by decide +kernel
theorem dX5_isRunLength_2 : decode cX5_isRunLength 2 = .ok (.if_icmp .lt 13, 3) := by decide +kernel
theorem dX5_isRunLength_5 : decode cX5_isRunLength 5 = .ok (.iload_n 0, 1) := by decide +kernel
theorem dX5_isRunLength_6 : decode cX5_isRunLength 6 = .ok (.bipush 40, 2) := by decide +kernel
theorem dX5_isRunLength_8 : decode cX5_isRunLength 8 = .ok (.if_icmp .gt 7, 3) := by decide +kernel
theorem dX5_isRunLength_11 : decode cX5_isRunLength 11 = .ok (.iconst 1, 1) := by decide +kernel
theorem dX5_isRunLength_12 : decode cX5_isRunLength 12 = .ok (.goto 4, 3) := by decide +kernel
theorem dX5_isRunLength_15 : decode cX5_isRunLength 15 = .ok (.iconst 0, 1) := by decide +kernel
theorem dX5_isRunLength_16 : decode cX5_isRunLength 16 = .ok (.ireturn, 1) := by decide +kernel
