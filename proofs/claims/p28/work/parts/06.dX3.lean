set_option maxRecDepth 20000 in
theorem ggX3_init_X2_init : GoodIn wsX3_init wsX2_init := goodIn_r _ [11, 12, 2, 3, 13, 14, 15, 16, 17, 18, 19, 20, 21, 22, 23, 24, 25, 26, 27, 28, 29, 30, 31, 32, 33, 34, 35, 36, 37, 38, 39, 40, 41, 57, 58, 45, 46, 47, 48, 49, 50, 51, 52, 53, 54, 55, 56, 59, 60] (by decide +kernel) (by decide +kernel)
set_option maxRecDepth 20000 in
theorem gX3_init_X2_init_n24 : GoodIn wsX3_init (wsX2_init) := ggX3_init_X2_init
theorem dX3_init_0 : decode cX3_init 0 = .ok (.aload_n 0, 1) := by decide +kernel
theorem dX3_init_1 : decode cX3_init 1 = .ok (.invokespecial 3, 3) := by decide +kernel
theorem dX3_init_4 : decode cX3_init 4 = .ok (.aload_n 0, 1) := by decide +kernel
theorem dX3_init_5 : decode cX3_init 5 = .ok (.bipush 6, 2) := by decide +kernel
theorem dX3_init_7 : decode cX3_init 7 = .ok (.anewarray 9, 3) := by decide +kernel
theorem dX3_init_10 : decode cX3_init 10 = .ok (.putfield 11, 3) := by decide +kernel
theorem dX3_init_13 : decode cX3_init 13 = .ok (.aload_n 0, 1) := by decide +kernel
theorem dX3_init_14 : decode cX3_init 14 = .ok (.iconst 0, 1) := by decide +kernel
theorem dX3_init_15 : decode cX3_init 15 = .ok (.putfield 17, 3) := by decide +kernel
theorem dX3_init_18 : decode cX3_init 18 = .ok (.aload_n 0, 1) := by decide +kernel
theorem dX3_init_19 : decode cX3_init 19 = .ok (.iconst 0, 1) := by decide +kernel
theorem dX3_init_20 : decode cX3_init 20 = .ok (.putfield 21, 3) := by decide +kernel
theorem dX3_init_23 : decode cX3_init 23 = .ok (.iconst 0, 1) := by decide +kernel
theorem dX3_init_24 : decode cX3_init 24 = .ok (.istore_n 1, 1) := by decide +kernel
theorem dX3_init_25 : decode cX3_init 25 = .ok (.iload_n 1, 1) := by decide +kernel
theorem dX3_init_26 : decode cX3_init 26 = .ok (.aload_n 0, 1) := by decide +kernel
theorem dX3_init_27 : decode cX3_init 27 = .ok (.getfield 11, 3) := by decide +kernel
theorem dX3_init_30 : decode cX3_init 30 = .ok (.arraylength, 1) := by decide +kernel
theorem dX3_init_31 : decode cX3_init 31 = .ok (.if_icmp .ge 22, 3) := by decide +kernel
theorem dX3_init_34 : decode cX3_init 34 = .ok (.aload_n 0, 1) := by decide +kernel
theorem dX3_init_35 : decode cX3_init 35 = .ok (.getfield 11, 3) := by decide +kernel
theorem dX3_init_38 : decode cX3_init 38 = .ok (.iload_n 1, 1) := by decide +kernel
theorem dX3_init_39 : decode cX3_init 39 = .ok (.new 9, 3) := by decide +kernel
theorem dX3_init_42 : decode cX3_init 42 = .ok (.dup, 1) := by decide +kernel
theorem dX3_init_43 : decode cX3_init 43 = .ok (.invokespecial 24, 3) := by decide +kernel
theorem dX3_init_46 : decode cX3_init 46 = .ok (.aastore, 1) := by decide +kernel
theorem dX3_init_47 : decode cX3_init 47 = .ok (.iinc 1 1, 3) := by decide +kernel
theorem dX3_init_50 : decode cX3_init 50 = .ok (.goto (-25), 3) := by decide +kernel
theorem dX3_init_53 : decode cX3_init 53 = .ok (.return_, 1) := by decide +kernel
theorem dX3_savedCount_0 : decode cX3_savedCount 0 = .ok (.aload_n 0, 1) := by decide +kernel
theorem dX3_savedCount_1 : decode cX3_savedCount 1 = .ok (.getfield 21, 3) := by decide +kernel
theorem dX3_savedCount_4 : decode cX3_savedCount 4 = .ok (.ireturn, 1) := by decide +kernel
set_option maxRecDepth 20000 in
theorem ggX3_save_X3_rowAt : GoodIn wsX3_save wsX3_rowAt := goodIn_r _ [7, 8, 52, 53, 54] (by decide +kernel) (by decide +kernel)
set_option maxRecDepth 20000 in
theorem gX3_save_X3_rowAt : GoodIn wsX3_save (wsV RX3 25 RX3 yX3_rowAt wsX3_rowAt) := goodIn_app (goodIn_of _ (by decide +kernel)) ggX3_save_X3_rowAt
set_option maxRecDepth 20000 in
theorem ggX3_save_X2_copyFrom : GoodIn wsX3_save wsX2_copyFrom := goodIn_r _ [13, 14, 15, 16, 17, 18, 19, 20, 21, 22, 23, 24, 25, 26, 27, 28, 29, 30, 31, 32, 33, 34, 35, 36, 37, 38, 39, 40, 41, 42, 43, 44, 45, 46, 47, 48, 49, 50, 51, 55, 56, 57, 58, 59, 60, 61, 62, 63, 64, 65, 66, 67, 68, 69, 70] (by decide +kernel) (by decide +kernel)
set_option maxRecDepth 20000 in
theorem gX3_save_X2_copyFrom : GoodIn wsX3_save (wsV RX3 29 RX2 yX2_copyFrom wsX2_copyFrom) := goodIn_app (goodIn_of _ (by decide +kernel)) ggX3_save_X2_copyFrom
theorem dX3_save_0 : decode cX3_save 0 = .ok (.aload_n 0, 1) := by decide +kernel
theorem dX3_save_1 : decode cX3_save 1 = .ok (.getfield 21, 3) := by decide +kernel
theorem dX3_save_4 : decode cX3_save 4 = .ok (.bipush 6, 2) := by decide +kernel
theorem dX3_save_6 : decode cX3_save 6 = .ok (.if_icmp .ne 26, 3) := by decide +kernel
theorem dX3_save_9 : decode cX3_save 9 = .ok (.aload_n 0, 1) := by decide +kernel
theorem dX3_save_10 : decode cX3_save 10 = .ok (.aload_n 0, 1) := by decide +kernel
theorem dX3_save_11 : decode cX3_save 11 = .ok (.getfield 17, 3) := by decide +kernel
theorem dX3_save_14 : decode cX3_save 14 = .ok (.iconst 1, 1) := by decide +kernel
theorem dX3_save_15 : decode cX3_save 15 = .ok (.iadd, 1) := by decide +kernel
theorem dX3_save_16 : decode cX3_save 16 = .ok (.bipush 6, 2) := by decide +kernel
theorem dX3_save_18 : decode cX3_save 18 = .ok (.irem, 1) := by decide +kernel
theorem dX3_save_19 : decode cX3_save 19 = .ok (.putfield 17, 3) := by decide +kernel
theorem dX3_save_22 : decode cX3_save 22 = .ok (.aload_n 0, 1) := by decide +kernel
theorem dX3_save_23 : decode cX3_save 23 = .ok (.dup, 1) := by decide +kernel
theorem dX3_save_24 : decode cX3_save 24 = .ok (.getfield 21, 3) := by decide +kernel
theorem dX3_save_27 : decode cX3_save 27 = .ok (.iconst 1, 1) := by decide +kernel
theorem dX3_save_28 : decode cX3_save 28 = .ok (.isub, 1) := by decide +kernel
theorem dX3_save_29 : decode cX3_save 29 = .ok (.putfield 21, 3) := by decide +kernel
theorem dX3_save_32 : decode cX3_save 32 = .ok (.aload_n 0, 1) := by decide +kernel
theorem dX3_save_33 : decode cX3_save 33 = .ok (.aload_n 0, 1) := by decide +kernel
theorem dX3_save_34 : decode cX3_save 34 = .ok (.getfield 17, 3) := by decide +kernel
theorem dX3_save_37 : decode cX3_save 37 = .ok (.aload_n 0, 1) := by decide +kernel
theorem dX3_save_38 : decode cX3_save 38 = .ok (.getfield 21, 3) := by decide +kernel
theorem dX3_save_41 : decode cX3_save 41 = .ok (.iadd, 1) := by decide +kernel
theorem dX3_save_42 : decode cX3_save 42 = .ok (.bipush 6, 2) := by decide +kernel
theorem dX3_save_44 : decode cX3_save 44 = .ok (.irem, 1) := by decide +kernel
theorem dX3_save_45 : decode cX3_save 45 = .ok (.invokevirtual 25, 3) := by decide +kernel
theorem dX3_save_48 : decode cX3_save 48 = .ok (.astore_n 2, 1) := by decide +kernel
theorem dX3_save_49 : decode cX3_save 49 = .ok (.aload_n 2, 1) := by decide +kernel
theorem dX3_save_50 : decode cX3_save 50 = .ok (.ifnull 18, 3) := by decide +kernel
theorem dX3_save_53 : decode cX3_save 53 = .ok (.aload_n 2, 1) := by decide +kernel
theorem dX3_save_54 : decode cX3_save 54 = .ok (.aload_n 1, 1) := by decide +kernel
theorem dX3_save_55 : decode cX3_save 55 = .ok (.invokevirtual 29, 3) := by decide +kernel
theorem dX3_save_58 : decode cX3_save 58 = .ok (.aload_n 0, 1) := by decide +kernel
theorem dX3_save_59 : decode cX3_save 59 = .ok (.dup, 1) := by decide +kernel
theorem dX3_save_60 : decode cX3_save 60 = .ok (.getfield 21, 3) := by decide +kernel
theorem dX3_save_63 : decode cX3_save 63 = .ok (.iconst 1, 1) := by decide +kernel
theorem dX3_save_64 : decode cX3_save 64 = .ok (.iadd, 1) := by decide +kernel
theorem dX3_save_65 : decode cX3_save 65 = .ok (.putfield 21, 3) := by decide +kernel
theorem dX3_save_68 : decode cX3_save 68 = .ok (.return_, 1) := by decide +kernel
set_option maxRecDepth 20000 in
theorem ggX3_restore_X3_rowAt : GoodIn wsX3_restore wsX3_rowAt := goodIn_r _ [7, 8, 52, 53, 54] (by decide +kernel) (by decide +kernel)
set_option maxRecDepth 20000 in
theorem gX3_restore_X3_rowAt : GoodIn wsX3_restore (wsV RX3 25 RX3 yX3_rowAt wsX3_rowAt) := goodIn_app (goodIn_of _ (by decide +kernel)) ggX3_restore_X3_rowAt
set_option maxRecDepth 20000 in
theorem ggX3_restore_X2_copyFrom : GoodIn wsX3_restore wsX2_copyFrom := goodIn_r _ [13, 14, 15, 16, 17, 18, 19, 20, 21, 22, 23, 24, 25, 26, 27, 28, 29, 30, 31, 32, 33, 34, 35, 36, 37, 38, 39, 40, 41, 42, 43, 44, 45, 46, 47, 48, 49, 50, 51, 55, 56, 57, 58, 59, 60, 61, 62, 63, 64, 65, 66, 67, 68, 69, 70] (by decide +kernel) (by decide +kernel)
set_option maxRecDepth 20000 in
theorem gX3_restore_X2_copyFrom : GoodIn wsX3_restore (wsV RX3 29 RX2 yX2_copyFrom wsX2_copyFrom) := goodIn_app (goodIn_of _ (by decide +kernel)) ggX3_restore_X2_copyFrom
theorem dX3_restore_0 : decode cX3_restore 0 = .ok (.aload_n 0, 1) := by decide +kernel
theorem dX3_restore_1 : decode cX3_restore 1 = .ok (.getfield 21, 3) := by decide +kernel
theorem dX3_restore_4 : decode cX3_restore 4 = .ok (.ifCond .ne 4, 3) := by decide +kernel
theorem dX3_restore_7 : decode cX3_restore 7 = .ok (.return_, 1) := by decide +kernel
theorem dX3_restore_8 : decode cX3_restore 8 = .ok (.aload_n 0, 1) := by decide +kernel
theorem dX3_restore_9 : decode cX3_restore 9 = .ok (.aload_n 0, 1) := by decide +kernel
theorem dX3_restore_10 : decode cX3_restore 10 = .ok (.getfield 17, 3) := by decide +kernel
theorem dX3_restore_13 : decode cX3_restore 13 = .ok (.aload_n 0, 1) := by decide +kernel
theorem dX3_restore_14 : decode cX3_restore 14 = .ok (.getfield 21, 3) := by decide +kernel
theorem dX3_restore_17 : decode cX3_restore 17 = .ok (.iadd, 1) := by decide +kernel
theorem dX3_restore_18 : decode cX3_restore 18 = .ok (.iconst 1, 1) := by decide +kernel
theorem dX3_restore_19 : decode cX3_restore 19 = .ok (.isub, 1) := by decide +kernel
theorem dX3_restore_20 : decode cX3_restore 20 = .ok (.bipush 6, 2) := by decide +kernel
theorem dX3_restore_22 : decode cX3_restore 22 = .ok (.irem, 1) := by decide +kernel
theorem dX3_restore_23 : decode cX3_restore 23 = .ok (.invokevirtual 25, 3) := by decide +kernel
theorem dX3_restore_26 : decode cX3_restore 26 = .ok (.astore_n 2, 1) := by decide +kernel
theorem dX3_restore_27 : decode cX3_restore 27 = .ok (.aload_n 2, 1) := by decide +kernel
theorem dX3_restore_28 : decode cX3_restore 28 = .ok (.ifnull 18, 3) := by decide +kernel
theorem dX3_restore_31 : decode cX3_restore 31 = .ok (.aload_n 1, 1) := by decide +kernel
theorem dX3_restore_32 : decode cX3_restore 32 = .ok (.aload_n 2, 1) := by decide +kernel
theorem dX3_restore_33 : decode cX3_restore 33 = .ok (.invokevirtual 29, 3) := by decide +kernel
theorem dX3_restore_36 : decode cX3_restore 36 = .ok (.aload_n 0, 1) := by decide +kernel
theorem dX3_restore_37 : decode cX3_restore 37 = .ok (.dup, 1) := by decide +kernel
theorem dX3_restore_38 : decode cX3_restore 38 = .ok (.getfield 21, 3) := by decide +kernel
theorem dX3_restore_41 : decode cX3_restore 41 = .ok (.iconst 1, 1) := by decide +kernel
theorem dX3_restore_42 : decode cX3_restore 42 = .ok (.isub, 1) := by decide +kernel
theorem dX3_restore_43 : decode cX3_restore 43 = .ok (.putfield 21, 3) := by decide +kernel
theorem dX3_restore_46 : decode cX3_restore 46 = .ok (.return_, 1) := by decide +kernel
theorem dX3_rowAt_0 : decode cX3_rowAt 0 = .ok (.iload_n 1, 1) := by decide +kernel
theorem dX3_rowAt_1 : decode cX3_rowAt 1 = .ok (.ifCond .lt 21, 3) := by decide +kernel
theorem dX3_rowAt_4 : decode cX3_rowAt 4 = .ok (.iload_n 1, 1) := by decide +kernel
theorem dX3_rowAt_5 : decode cX3_rowAt 5 = .ok (.aload_n 0, 1) := by decide +kernel
theorem dX3_rowAt_6 : decode cX3_rowAt 6 = .ok (.getfield 11, 3) := by decide +kernel
theorem dX3_rowAt_9 : decode cX3_rowAt 9 = .ok (.arraylength, 1) := by decide +kernel
theorem dX3_rowAt_10 : decode cX3_rowAt 10 = .ok (.if_icmp .ge 12, 3) := by decide +kernel
theorem dX3_rowAt_13 : decode cX3_rowAt 13 = .ok (.aload_n 0, 1) := by decide +kernel
theorem dX3_rowAt_14 : decode cX3_rowAt 14 = .ok (.getfield 11, 3) := by decide +kernel
theorem dX3_rowAt_17 : decode cX3_rowAt 17 = .ok (.iload_n 1, 1) := by decide +kernel
theorem dX3_rowAt_18 : decode cX3_rowAt 18 = .ok (.aaload, 1) := by decide +kernel
theorem dX3_rowAt_19 : decode cX3_rowAt 19 = .ok (.goto 4, 3) := by decide +kernel
theorem dX3_rowAt_22 : decode cX3_rowAt 22 = .ok (.aconst_null, 1) := by decide +kernel
theorem dX3_rowAt_23 : decode cX3_rowAt 23 = .ok (.areturn, 1) := by decide +kernel
