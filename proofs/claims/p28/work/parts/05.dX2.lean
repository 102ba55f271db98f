set_option maxRecDepth 20000 in
theorem ggX2_init_X0_init : GoodIn wsX2_init wsX0_init := goodIn_r _ [24, 25, 2, 3, 12, 26, 27, 33, 34] (by decide +kernel) (by decide +kernel)
set_option maxRecDepth 20000 in
theorem gX2_init_X0_init_n11 : GoodIn wsX2_init (wsX0_init) := ggX2_init_X0_init
set_option maxRecDepth 20000 in
theorem ggX2_init_X1_init : GoodIn wsX2_init wsX1_init := goodIn_r _ [29, 30, 2, 3, 12, 31, 32, 47, 48] (by decide +kernel) (by decide +kernel)
set_option maxRecDepth 20000 in
theorem gX2_init_X1_init_n20 : GoodIn wsX2_init (wsX1_init) := ggX2_init_X1_init
theorem dX2_init_0 : decode cX2_init 0 = .ok (.aload_n 0, 1) := by decide +kernel
theorem dX2_init_1 : decode cX2_init 1 = .ok (.invokespecial 3, 3) := by decide +kernel
theorem dX2_init_4 : decode cX2_init 4 = .ok (.aload_n 0, 1) := by decide +kernel
theorem dX2_init_5 : decode cX2_init 5 = .ok (.new 9, 3) := by decide +kernel
theorem dX2_init_8 : decode cX2_init 8 = .ok (.dup, 1) := by decide +kernel
theorem dX2_init_9 : decode cX2_init 9 = .ok (.invokespecial 11, 3) := by decide +kernel
theorem dX2_init_12 : decode cX2_init 12 = .ok (.putfield 12, 3) := by decide +kernel
theorem dX2_init_15 : decode cX2_init 15 = .ok (.aload_n 0, 1) := by decide +kernel
theorem dX2_init_16 : decode cX2_init 16 = .ok (.new 18, 3) := by decide +kernel
theorem dX2_init_19 : decode cX2_init 19 = .ok (.dup, 1) := by decide +kernel
theorem dX2_init_20 : decode cX2_init 20 = .ok (.invokespecial 20, 3) := by decide +kernel
theorem dX2_init_23 : decode cX2_init 23 = .ok (.putfield 21, 3) := by decide +kernel
theorem dX2_init_26 : decode cX2_init 26 = .ok (.aload_n 0, 1) := by decide +kernel
theorem dX2_init_27 : decode cX2_init 27 = .ok (.iconst 5, 1) := by decide +kernel
theorem dX2_init_28 : decode cX2_init 28 = .ok (.newarray .int, 2) := by decide +kernel
theorem dX2_init_30 : decode cX2_init 30 = .ok (.dup, 1) := by decide +kernel
theorem dX2_init_31 : decode cX2_init 31 = .ok (.iconst 0, 1) := by decide +kernel
theorem dX2_init_32 : decode cX2_init 32 = .ok (.iconst 0, 1) := by decide +kernel
theorem dX2_init_33 : decode cX2_init 33 = .ok (.iastore, 1) := by decide +kernel
theorem dX2_init_34 : decode cX2_init 34 = .ok (.dup, 1) := by decide +kernel
theorem dX2_init_35 : decode cX2_init 35 = .ok (.iconst 1, 1) := by decide +kernel
theorem dX2_init_36 : decode cX2_init 36 = .ok (.iconst 4, 1) := by decide +kernel
theorem dX2_init_37 : decode cX2_init 37 = .ok (.iastore, 1) := by decide +kernel
theorem dX2_init_38 : decode cX2_init 38 = .ok (.dup, 1) := by decide +kernel
theorem dX2_init_39 : decode cX2_init 39 = .ok (.iconst 2, 1) := by decide +kernel
theorem dX2_init_40 : decode cX2_init 40 = .ok (.bipush 20, 2) := by decide +kernel
theorem dX2_init_42 : decode cX2_init 42 = .ok (.iastore, 1) := by decide +kernel
theorem dX2_init_43 : decode cX2_init 43 = .ok (.dup, 1) := by decide +kernel
theorem dX2_init_44 : decode cX2_init 44 = .ok (.iconst 3, 1) := by decide +kernel
theorem dX2_init_45 : decode cX2_init 45 = .ok (.iconst 1, 1) := by decide +kernel
theorem dX2_init_46 : decode cX2_init 46 = .ok (.iastore, 1) := by decide +kernel
theorem dX2_init_47 : decode cX2_init 47 = .ok (.dup, 1) := by decide +kernel
theorem dX2_init_48 : decode cX2_init 48 = .ok (.iconst 4, 1) := by decide +kernel
theorem dX2_init_49 : decode cX2_init 49 = .ok (.bipush 60, 2) := by decide +kernel
theorem dX2_init_51 : decode cX2_init 51 = .ok (.iastore, 1) := by decide +kernel
theorem dX2_init_52 : decode cX2_init 52 = .ok (.putfield 25, 3) := by decide +kernel
theorem dX2_init_55 : decode cX2_init 55 = .ok (.aload_n 0, 1) := by decide +kernel
theorem dX2_init_56 : decode cX2_init 56 = .ok (.iconst 0, 1) := by decide +kernel
theorem dX2_init_57 : decode cX2_init 57 = .ok (.putfield 29, 3) := by decide +kernel
theorem dX2_init_60 : decode cX2_init 60 = .ok (.aload_n 0, 1) := by decide +kernel
theorem dX2_init_61 : decode cX2_init 61 = .ok (.bipush 7, 2) := by decide +kernel
theorem dX2_init_63 : decode cX2_init 63 = .ok (.putfield 33, 3) := by decide +kernel
theorem dX2_init_66 : decode cX2_init 66 = .ok (.aload_n 0, 1) := by decide +kernel
theorem dX2_init_67 : decode cX2_init 67 = .ok (.iconst 0, 1) := by decide +kernel
theorem dX2_init_68 : decode cX2_init 68 = .ok (.putfield 36, 3) := by decide +kernel
theorem dX2_init_71 : decode cX2_init 71 = .ok (.aload_n 0, 1) := by decide +kernel
theorem dX2_init_72 : decode cX2_init 72 = .ok (.iconst 0, 1) := by decide +kernel
theorem dX2_init_73 : decode cX2_init 73 = .ok (.putfield 40, 3) := by decide +kernel
theorem dX2_init_76 : decode cX2_init 76 = .ok (.aload_n 0, 1) := by decide +kernel
theorem dX2_init_77 : decode cX2_init 77 = .ok (.iconst 0, 1) := by decide +kernel
theorem dX2_init_78 : decode cX2_init 78 = .ok (.putfield 43, 3) := by decide +kernel
theorem dX2_init_81 : decode cX2_init 81 = .ok (.aload_n 0, 1) := by decide +kernel
theorem dX2_init_82 : decode cX2_init 82 = .ok (.iconst 0, 1) := by decide +kernel
theorem dX2_init_83 : decode cX2_init 83 = .ok (.putfield 46, 3) := by decide +kernel
theorem dX2_init_86 : decode cX2_init 86 = .ok (.aload_n 0, 1) := by decide +kernel
theorem dX2_init_87 : decode cX2_init 87 = .ok (.iconst 0, 1) := by decide +kernel
theorem dX2_init_88 : decode cX2_init 88 = .ok (.putfield 49, 3) := by decide +kernel
theorem dX2_init_91 : decode cX2_init 91 = .ok (.aload_n 0, 1) := by decide +kernel
theorem dX2_init_92 : decode cX2_init 92 = .ok (.iconst 0, 1) := by decide +kernel
theorem dX2_init_93 : decode cX2_init 93 = .ok (.putfield 52, 3) := by decide +kernel
theorem dX2_init_96 : decode cX2_init 96 = .ok (.aload_n 0, 1) := by decide +kernel
theorem dX2_init_97 : decode cX2_init 97 = .ok (.iconst 0, 1) := by decide +kernel
theorem dX2_init_98 : decode cX2_init 98 = .ok (.putfield 55, 3) := by decide +kernel
theorem dX2_init_101 : decode cX2_init 101 = .ok (.return_, 1) := by decide +kernel
set_option maxRecDepth 20000 in
theorem ggX2_copyFrom_X0_copyFrom : GoodIn wsX2_copyFrom wsX0_copyFrom := goodIn_r _ [25, 26, 27, 5, 6, 7, 28, 9, 10, 11, 29, 51, 52] (by decide +kernel) (by decide +kernel)
set_option maxRecDepth 20000 in
theorem gX2_copyFrom_X0_copyFrom : GoodIn wsX2_copyFrom (wsV RX2 58 RX0 yX0_copyFrom wsX0_copyFrom) := goodIn_app (goodIn_of _ (by decide +kernel)) ggX2_copyFrom_X0_copyFrom
set_option maxRecDepth 20000 in
theorem ggX2_copyFrom_X1_copyFrom : GoodIn wsX2_copyFrom wsX1_copyFrom := goodIn_r _ [34, 35, 36, 5, 6, 7, 37, 9, 10, 11, 38, 53, 54] (by decide +kernel) (by decide +kernel)
set_option maxRecDepth 20000 in
theorem gX2_copyFrom_X1_copyFrom : GoodIn wsX2_copyFrom (wsV RX2 62 RX1 yX1_copyFrom wsX1_copyFrom) := goodIn_app (goodIn_of _ (by decide +kernel)) ggX2_copyFrom_X1_copyFrom
theorem dX2_copyFrom_0 : decode cX2_copyFrom 0 = .ok (.aload_n 0, 1) := by decide +kernel
theorem dX2_copyFrom_1 : decode cX2_copyFrom 1 = .ok (.getfield 12, 3) := by decide +kernel
theorem dX2_copyFrom_4 : decode cX2_copyFrom 4 = .ok (.aload_n 1, 1) := by decide +kernel
theorem dX2_copyFrom_5 : decode cX2_copyFrom 5 = .ok (.getfield 12, 3) := by decide +kernel
theorem dX2_copyFrom_8 : decode cX2_copyFrom 8 = .ok (.invokevirtual 58, 3) := by decide +kernel
theorem dX2_copyFrom_11 : decode cX2_copyFrom 11 = .ok (.aload_n 0, 1) := by decide +kernel
theorem dX2_copyFrom_12 : decode cX2_copyFrom 12 = .ok (.getfield 21, 3) := by decide +kernel
theorem dX2_copyFrom_15 : decode cX2_copyFrom 15 = .ok (.aload_n 1, 1) := by decide +kernel
theorem dX2_copyFrom_16 : decode cX2_copyFrom 16 = .ok (.getfield 21, 3) := by decide +kernel
theorem dX2_copyFrom_19 : decode cX2_copyFrom 19 = .ok (.invokevirtual 62, 3) := by decide +kernel
theorem dX2_copyFrom_22 : decode cX2_copyFrom 22 = .ok (.aload_n 1, 1) := by decide +kernel
theorem dX2_copyFrom_23 : decode cX2_copyFrom 23 = .ok (.getfield 25, 3) := by decide +kernel
theorem dX2_copyFrom_26 : decode cX2_copyFrom 26 = .ok (.iconst 0, 1) := by decide +kernel
theorem dX2_copyFrom_27 : decode cX2_copyFrom 27 = .ok (.aload_n 0, 1) := by decide +kernel
theorem dX2_copyFrom_28 : decode cX2_copyFrom 28 = .ok (.getfield 25, 3) := by decide +kernel
theorem dX2_copyFrom_31 : decode cX2_copyFrom 31 = .ok (.iconst 0, 1) := by decide +kernel
theorem dX2_copyFrom_32 : decode cX2_copyFrom 32 = .ok (.aload_n 1, 1) := by decide +kernel
theorem dX2_copyFrom_33 : decode cX2_copyFrom 33 = .ok (.getfield 25, 3) := by decide +kernel
theorem dX2_copyFrom_36 : decode cX2_copyFrom 36 = .ok (.arraylength, 1) := by decide +kernel
theorem dX2_copyFrom_37 : decode cX2_copyFrom 37 = .ok (.aload_n 0, 1) := by decide +kernel
theorem dX2_copyFrom_38 : decode cX2_copyFrom 38 = .ok (.getfield 25, 3) := by decide +kernel
theorem dX2_copyFrom_41 : decode cX2_copyFrom 41 = .ok (.arraylength, 1) := by decide +kernel
theorem dX2_copyFrom_42 : decode cX2_copyFrom 42 = .ok (.invokestatic 65, 3) := by decide +kernel
theorem dX2_copyFrom_45 : decode cX2_copyFrom 45 = .ok (.invokestatic 71, 3) := by decide +kernel
theorem dX2_copyFrom_48 : decode cX2_copyFrom 48 = .ok (.aload_n 0, 1) := by decide +kernel
theorem dX2_copyFrom_49 : decode cX2_copyFrom 49 = .ok (.aload_n 1, 1) := by decide +kernel
theorem dX2_copyFrom_50 : decode cX2_copyFrom 50 = .ok (.getfield 29, 3) := by decide +kernel
theorem dX2_copyFrom_53 : decode cX2_copyFrom 53 = .ok (.putfield 29, 3) := by decide +kernel
theorem dX2_copyFrom_56 : decode cX2_copyFrom 56 = .ok (.aload_n 0, 1) := by decide +kernel
theorem dX2_copyFrom_57 : decode cX2_copyFrom 57 = .ok (.aload_n 1, 1) := by decide +kernel
theorem dX2_copyFrom_58 : decode cX2_copyFrom 58 = .ok (.getfield 33, 3) := by decide +kernel
theorem dX2_copyFrom_61 : decode cX2_copyFrom 61 = .ok (.putfield 33, 3) := by decide +kernel
theorem dX2_copyFrom_64 : decode cX2_copyFrom 64 = .ok (.aload_n 0, 1) := by decide +kernel
theorem dX2_copyFrom_65 : decode cX2_copyFrom 65 = .ok (.aload_n 1, 1) := by decide +kernel
theorem dX2_copyFrom_66 : decode cX2_copyFrom 66 = .ok (.getfield 36, 3) := by decide +kernel
theorem dX2_copyFrom_69 : decode cX2_copyFrom 69 = .ok (.putfield 36, 3) := by decide +kernel
theorem dX2_copyFrom_72 : decode cX2_copyFrom 72 = .ok (.aload_n 0, 1) := by decide +kernel
theorem dX2_copyFrom_73 : decode cX2_copyFrom 73 = .ok (.aload_n 1, 1) := by decide +kernel
theorem dX2_copyFrom_74 : decode cX2_copyFrom 74 = .ok (.getfield 40, 3) := by decide +kernel
theorem dX2_copyFrom_77 : decode cX2_copyFrom 77 = .ok (.putfield 40, 3) := by decide +kernel
theorem dX2_copyFrom_80 : decode cX2_copyFrom 80 = .ok (.aload_n 0, 1) := by decide +kernel
theorem dX2_copyFrom_81 : decode cX2_copyFrom 81 = .ok (.aload_n 1, 1) := by decide +kernel
theorem dX2_copyFrom_82 : decode cX2_copyFrom 82 = .ok (.getfield 43, 3) := by decide +kernel
theorem dX2_copyFrom_85 : decode cX2_copyFrom 85 = .ok (.putfield 43, 3) := by decide +kernel
theorem dX2_copyFrom_88 : decode cX2_copyFrom 88 = .ok (.aload_n 0, 1) := by decide +kernel
theorem dX2_copyFrom_89 : decode cX2_copyFrom 89 = .ok (.aload_n 1, 1) := by decide +kernel
theorem dX2_copyFrom_90 : decode cX2_copyFrom 90 = .ok (.getfield 46, 3) := by decide +kernel
theorem dX2_copyFrom_93 : decode cX2_copyFrom 93 = .ok (.putfield 46, 3) := by decide +kernel
theorem dX2_copyFrom_96 : decode cX2_copyFrom 96 = .ok (.aload_n 0, 1) := by decide +kernel
theorem dX2_copyFrom_97 : decode cX2_copyFrom 97 = .ok (.aload_n 1, 1) := by decide +kernel
theorem dX2_copyFrom_98 : decode cX2_copyFrom 98 = .ok (.getfield 49, 3) := by decide +kernel
theorem dX2_copyFrom_101 : decode cX2_copyFrom 101 = .ok (.putfield 49, 3) := by decide +kernel
theorem dX2_copyFrom_104 : decode cX2_copyFrom 104 = .ok (.aload_n 0, 1) := by decide +kernel
theorem dX2_copyFrom_105 : decode cX2_copyFrom 105 = .ok (.aload_n 1, 1) := by decide +kernel
theorem dX2_copyFrom_106 : decode cX2_copyFrom 106 = .ok (.getfield 52, 3) := by decide +kernel
theorem dX2_copyFrom_109 : decode cX2_copyFrom 109 = .ok (.putfield 52, 3) := by decide +kernel
theorem dX2_copyFrom_112 : decode cX2_copyFrom 112 = .ok (.aload_n 0, 1) := by decide +kernel
theorem dX2_copyFrom_113 : decode cX2_copyFrom 113 = .ok (.aload_n 1, 1) := by decide +kernel
theorem dX2_copyFrom_114 : decode cX2_copyFrom 114 = .ok (.getfield 55, 3) := by decide +kernel
theorem dX2_copyFrom_117 : decode cX2_copyFrom 117 = .ok (.putfield 55, 3) := by decide +kernel
theorem dX2_copyFrom_120 : decode cX2_copyFrom 120 = .ok (.return_, 1) := by decide +kernel
theorem dX2_settingOf_0 : decode cX2_settingOf 0 = .ok (.iload_n 1, 1) := by decide +kernel
theorem dX2_settingOf_1 : decode cX2_settingOf 1 = .ok (.ifCond .lt 21, 3) := by decide +kernel
theorem dX2_settingOf_4 : decode cX2_settingOf 4 = .ok (.iload_n 1, 1) := by decide +kernel
theorem dX2_settingOf_5 : decode cX2_settingOf 5 = .ok (.aload_n 0, 1) := by decide +kernel
theorem dX2_settingOf_6 : decode cX2_settingOf 6 = .ok (.getfield 25, 3) := by decide +kernel
theorem dX2_settingOf_9 : decode cX2_settingOf 9 = .ok (.arraylength, 1) := by decide +kernel
theorem dX2_settingOf_10 : decode cX2_settingOf 10 = .ok (.if_icmp .ge 12, 3) := by decide +kernel
theorem dX2_settingOf_13 : decode cX2_settingOf 13 = .ok (.aload_n 0, 1) := by decide +kernel
theorem dX2_settingOf_14 : decode cX2_settingOf 14 = .ok (.getfield 25, 3) := by decide +kernel
theorem dX2_settingOf_17 : decode cX2_settingOf 17 = .ok (.iload_n 1, 1) := by decide +kernel
theorem dX2_settingOf_18 : decode cX2_settingOf 18 = .ok (.iaload, 1) := by decide +kernel
theorem dX2_settingOf_19 : decode cX2_settingOf 19 = .ok (.goto 4, 3) := by decide +kernel
theorem dX2_settingOf_22 : decode cX2_settingOf 22 = .ok (.iconst (-1), 1) := by decide +kernel
theorem dX2_settingOf_23 : decode cX2_settingOf 23 = .ok (.ireturn, 1) := by decide +kernel
theorem dX2_changeSetting_0 : decode cX2_changeSetting 0 = .ok (.iload_n 1, 1) := by decide +kernel
theorem dX2_changeSetting_1 : decode cX2_changeSetting 1 = .ok (.ifCond .lt 19, 3) := by decide +kernel
theorem dX2_changeSetting_4 : decode cX2_changeSetting 4 = .ok (.iload_n 1, 1) := by decide +kernel
theorem dX2_changeSetting_5 : decode cX2_changeSetting 5 = .ok (.aload_n 0, 1) := by decide +kernel
theorem dX2_changeSetting_6 : decode cX2_changeSetting 6 = .ok (.getfield 25, 3) := by decide +kernel
theorem dX2_changeSetting_9 : decode cX2_changeSetting 9 = .ok (.arraylength, 1) := by decide +kernel
theorem dX2_changeSetting_10 : decode cX2_changeSetting 10 = .ok (.if_icmp .ge 10, 3) := by decide +kernel
theorem dX2_changeSetting_13 : decode cX2_changeSetting 13 = .ok (.aload_n 0, 1) := by decide +kernel
theorem dX2_changeSetting_14 : decode cX2_changeSetting 14 = .ok (.getfield 25, 3) := by decide +kernel
theorem dX2_changeSetting_17 : decode cX2_changeSetting 17 = .ok (.iload_n 1, 1) := by decide +kernel
theorem dX2_changeSetting_18 : decode cX2_changeSetting 18 = .ok (.iload_n 2, 1) := by decide +kernel
theorem dX2_changeSetting_19 : decode cX2_changeSetting 19 = .ok (.iastore, 1) := by decide +kernel
theorem dX2_changeSetting_20 : decode cX2_changeSetting 20 = .ok (.return_, 1) := by decide +kernel
theorem dX2_isFed_0 : decode cX2_isFed 0 = .ok (.aload_n 0, 1) := by decide +kernel
theorem dX2_isFed_1 : decode cX2_isFed 1 = .ok (.getfield 29, 3) := by decide +kernel
theorem dX2_isFed_4 : decode cX2_isFed 4 = .ok (.iload_n 1, 1) := by decide +kernel
theorem dX2_isFed_5 : decode cX2_isFed 5 = .ok (.ishr, 1) := by decide +kernel
theorem dX2_isFed_6 : decode cX2_isFed 6 = .ok (.iconst 1, 1) := by decide +kernel
theorem dX2_isFed_7 : decode cX2_isFed 7 = .ok (.iand, 1) := by decide +kernel
theorem dX2_isFed_8 : decode cX2_isFed 8 = .ok (.iconst 1, 1) := by decide +kernel
theorem dX2_isFed_9 : decode cX2_isFed 9 = .ok (.if_icmp .ne 7, 3) := by decide +kernel
theorem dX2_isFed_12 : decode cX2_isFed 12 = .ok (.iconst 1, 1) := by decide +kernel
theorem dX2_isFed_13 : decode cX2_isFed 13 = .ok (.goto 4, 3) := by decide +kernel
theorem dX2_isFed_16 : decode cX2_isFed 16 = .ok (.iconst 0, 1) := by decide +kernel
theorem dX2_isFed_17 : decode cX2_isFed 17 = .ok (.ireturn, 1) := by decide +kernel
set_option maxRecDepth 20000 in
theorem ggX2_pour_X0_addBack : GoodIn wsX2_pour wsX0_addBack := goodIn_r _ [7, 8, 9, 10, 11, 12, 6, 13, 26, 27] (by decide +kernel) (by decide +kernel)
set_option maxRecDepth 20000 in
theorem gX2_pour_X0_addBack : GoodIn wsX2_pour (wsV RX2 77 RX0 yX0_addBack wsX0_addBack) := goodIn_app (goodIn_of _ (by decide +kernel)) ggX2_pour_X0_addBack
theorem dX2_pour_0 : decode cX2_pour 0 = .ok (.iconst 0, 1) := by decide +kernel
theorem dX2_pour_1 : decode cX2_pour 1 = .ok (.istore 4, 2) := by decide +kernel
theorem dX2_pour_3 : decode cX2_pour 3 = .ok (.iload 4, 2) := by decide +kernel
theorem dX2_pour_5 : decode cX2_pour 5 = .ok (.iload_n 3, 1) := by decide +kernel
theorem dX2_pour_6 : decode cX2_pour 6 = .ok (.if_icmp .ge 28, 3) := by decide +kernel
theorem dX2_pour_9 : decode cX2_pour 9 = .ok (.aload_n 0, 1) := by decide +kernel
theorem dX2_pour_10 : decode cX2_pour 10 = .ok (.getfield 12, 3) := by decide +kernel
theorem dX2_pour_13 : decode cX2_pour 13 = .ok (.iload_n 1, 1) := by decide +kernel
theorem dX2_pour_14 : decode cX2_pour 14 = .ok (.iload_n 2, 1) := by decide +kernel
theorem dX2_pour_15 : decode cX2_pour 15 = .ok (.invokevirtual 77, 3) := by decide +kernel
theorem dX2_pour_18 : decode cX2_pour 18 = .ok (.aload_n 0, 1) := by decide +kernel
theorem dX2_pour_19 : decode cX2_pour 19 = .ok (.dup, 1) := by decide +kernel
theorem dX2_pour_20 : decode cX2_pour 20 = .ok (.getfield 52, 3) := by decide +kernel
theorem dX2_pour_23 : decode cX2_pour 23 = .ok (.iload_n 2, 1) := by decide +kernel
theorem dX2_pour_24 : decode cX2_pour 24 = .ok (.iadd, 1) := by decide +kernel
theorem dX2_pour_25 : decode cX2_pour 25 = .ok (.putfield 52, 3) := by decide +kernel
theorem dX2_pour_28 : decode cX2_pour 28 = .ok (.iinc 4 1, 3) := by decide +kernel
theorem dX2_pour_31 : decode cX2_pour 31 = .ok (.goto (-28), 3) := by decide +kernel
theorem dX2_pour_34 : decode cX2_pour 34 = .ok (.return_, 1) := by decide +kernel
set_option maxRecDepth 20000 in
theorem ggX2_whyNot_X2_isFed : GoodIn wsX2_whyNot wsX2_isFed := goodIn_r _ [9, 2, 54, 55, 56, 57, 58, 59, 60, 61, 62, 63, 64, 65] (by decide +kernel) (by decide +kernel)
set_option maxRecDepth 20000 in
theorem gX2_whyNot_X2_isFed : GoodIn wsX2_whyNot (wsV RX2 81 RX2 yX2_isFed wsX2_isFed) := goodIn_app (goodIn_of _ (by decide +kernel)) ggX2_whyNot_X2_isFed
set_option maxRecDepth 20000 in
theorem ggX2_whyNot_X0_maskOfFilled : GoodIn wsX2_whyNot wsX0_maskOfFilled := goodIn_r _ [14, 15, 66, 67] (by decide +kernel) (by decide +kernel)
set_option maxRecDepth 20000 in
theorem gX2_whyNot_X0_maskOfFilled : GoodIn wsX2_whyNot (wsV RX2 85 RX0 yX0_maskOfFilled wsX0_maskOfFilled) := goodIn_app (goodIn_of _ (by decide +kernel)) ggX2_whyNot_X0_maskOfFilled
set_option maxRecDepth 20000 in
theorem ggX2_whyNot_X0_frontsOf : GoodIn wsX2_whyNot wsX0_frontsOf := goodIn_r _ [19, 20, 21, 22, 13, 23, 24, 25, 26, 27, 28, 15, 66, 67] (by decide +kernel) (by decide +kernel)
set_option maxRecDepth 20000 in
theorem gX2_whyNot_X0_frontsOf : GoodIn wsX2_whyNot (wsV RX2 89 RX0 yX0_frontsOf wsX0_frontsOf) := goodIn_app (goodIn_of _ (by decide +kernel)) ggX2_whyNot_X0_frontsOf
set_option maxRecDepth 20000 in
theorem ggX2_whyNot_X2_draftFor : GoodIn wsX2_whyNot wsX2_draftFor := goodIn_r _ [32, 33, 34, 35, 36, 37, 38, 39, 40, 41, 42, 43, 8, 44, 45, 46, 47, 48, 49, 50, 51, 52, 54, 55, 56, 57, 58, 59, 60, 61, 62, 63, 64, 65, 68, 69] (by decide +kernel) (by decide +kernel)
set_option maxRecDepth 20000 in
theorem gX2_whyNot_X2_draftFor : GoodIn wsX2_whyNot (wsV RX2 93 RX2 yX2_draftFor wsX2_draftFor) := goodIn_app (goodIn_of _ (by decide +kernel)) ggX2_whyNot_X2_draftFor
set_option maxRecDepth 20000 in
theorem ggX2_whyNot_X0_sizeOf : GoodIn wsX2_whyNot wsX0_sizeOf := goodIn_r _ [28, 15, 66, 67] (by decide +kernel) (by decide +kernel)
set_option maxRecDepth 20000 in
theorem gX2_whyNot_X0_sizeOf : GoodIn wsX2_whyNot (wsV RX2 96 RX0 yX0_sizeOf wsX0_sizeOf) := goodIn_app (goodIn_of _ (by decide +kernel)) ggX2_whyNot_X0_sizeOf
theorem dX2_whyNot_0 : decode cX2_whyNot 0 = .ok (.aload_n 0, 1) := by decide +kernel
theorem dX2_whyNot_1 : decode cX2_whyNot 1 = .ok (.getfield 36, 3) := by decide +kernel
theorem dX2_whyNot_4 : decode cX2_whyNot 4 = .ok (.ifCond .eq 5, 3) := by decide +kernel
theorem dX2_whyNot_7 : decode cX2_whyNot 7 = .ok (.iconst 1, 1) := by decide +kernel
theorem dX2_whyNot_8 : decode cX2_whyNot 8 = .ok (.ireturn, 1) := by decide +kernel
theorem dX2_whyNot_9 : decode cX2_whyNot 9 = .ok (.aload_n 0, 1) := by decide +kernel
theorem dX2_whyNot_10 : decode cX2_whyNot 10 = .ok (.getfield 29, 3) := by decide +kernel
theorem dX2_whyNot_13 : decode cX2_whyNot 13 = .ok (.ifCond .ne 5, 3) := by decide +kernel
theorem dX2_whyNot_16 : decode cX2_whyNot 16 = .ok (.iconst 2, 1) := by decide +kernel
theorem dX2_whyNot_17 : decode cX2_whyNot 17 = .ok (.ireturn, 1) := by decide +kernel
theorem dX2_whyNot_18 : decode cX2_whyNot 18 = .ok (.aload_n 0, 1) := by decide +kernel
theorem dX2_whyNot_19 : decode cX2_whyNot 19 = .ok (.aload_n 0, 1) := by decide +kernel
theorem dX2_whyNot_20 : decode cX2_whyNot 20 = .ok (.getfield 33, 3) := by decide +kernel
theorem dX2_whyNot_23 : decode cX2_whyNot 23 = .ok (.invokevirtual 81, 3) := by decide +kernel
theorem dX2_whyNot_26 : decode cX2_whyNot 26 = .ok (.ifCond .eq 5, 3) := by decide +kernel
theorem dX2_whyNot_29 : decode cX2_whyNot 29 = .ok (.iconst 3, 1) := by decide +kernel
theorem dX2_whyNot_30 : decode cX2_whyNot 30 = .ok (.ireturn, 1) := by decide +kernel
theorem dX2_whyNot_31 : decode cX2_whyNot 31 = .ok (.aload_n 0, 1) := by decide +kernel
theorem dX2_whyNot_32 : decode cX2_whyNot 32 = .ok (.getfield 29, 3) := by decide +kernel
theorem dX2_whyNot_35 : decode cX2_whyNot 35 = .ok (.aload_n 0, 1) := by decide +kernel
theorem dX2_whyNot_36 : decode cX2_whyNot 36 = .ok (.getfield 12, 3) := by decide +kernel
theorem dX2_whyNot_39 : decode cX2_whyNot 39 = .ok (.invokevirtual 85, 3) := by decide +kernel
theorem dX2_whyNot_42 : decode cX2_whyNot 42 = .ok (.iconst (-1), 1) := by decide +kernel
theorem dX2_whyNot_43 : decode cX2_whyNot 43 = .ok (.ixor, 1) := by decide +kernel
theorem dX2_whyNot_44 : decode cX2_whyNot 44 = .ok (.iand, 1) := by decide +kernel
theorem dX2_whyNot_45 : decode cX2_whyNot 45 = .ok (.ifCond .eq 5, 3) := by decide +kernel
theorem dX2_whyNot_48 : decode cX2_whyNot 48 = .ok (.iconst 4, 1) := by decide +kernel
theorem dX2_whyNot_49 : decode cX2_whyNot 49 = .ok (.ireturn, 1) := by decide +kernel
theorem dX2_whyNot_50 : decode cX2_whyNot 50 = .ok (.aload_n 0, 1) := by decide +kernel
theorem dX2_whyNot_51 : decode cX2_whyNot 51 = .ok (.aload_n 0, 1) := by decide +kernel
theorem dX2_whyNot_52 : decode cX2_whyNot 52 = .ok (.getfield 12, 3) := by decide +kernel
theorem dX2_whyNot_55 : decode cX2_whyNot 55 = .ok (.aload_n 0, 1) := by decide +kernel
theorem dX2_whyNot_56 : decode cX2_whyNot 56 = .ok (.getfield 29, 3) := by decide +kernel
theorem dX2_whyNot_59 : decode cX2_whyNot 59 = .ok (.invokevirtual 89, 3) := by decide +kernel
theorem dX2_whyNot_62 : decode cX2_whyNot 62 = .ok (.invokevirtual 93, 3) := by decide +kernel
theorem dX2_whyNot_65 : decode cX2_whyNot 65 = .ok (.istore_n 1, 1) := by decide +kernel
theorem dX2_whyNot_66 : decode cX2_whyNot 66 = .ok (.aload_n 0, 1) := by decide +kernel
theorem dX2_whyNot_67 : decode cX2_whyNot 67 = .ok (.getfield 12, 3) := by decide +kernel
theorem dX2_whyNot_70 : decode cX2_whyNot 70 = .ok (.aload_n 0, 1) := by decide +kernel
theorem dX2_whyNot_71 : decode cX2_whyNot 71 = .ok (.getfield 33, 3) := by decide +kernel
theorem dX2_whyNot_74 : decode cX2_whyNot 74 = .ok (.invokevirtual 96, 3) := by decide +kernel
theorem dX2_whyNot_77 : decode cX2_whyNot 77 = .ok (.iload_n 1, 1) := by decide +kernel
theorem dX2_whyNot_78 : decode cX2_whyNot 78 = .ok (.iadd, 1) := by decide +kernel
theorem dX2_whyNot_79 : decode cX2_whyNot 79 = .ok (.bipush 40, 2) := by decide +kernel
theorem dX2_whyNot_81 : decode cX2_whyNot 81 = .ok (.if_icmp .le 7, 3) := by decide +kernel
theorem dX2_whyNot_84 : decode cX2_whyNot 84 = .ok (.iconst 5, 1) := by decide +kernel
theorem dX2_whyNot_85 : decode cX2_whyNot 85 = .ok (.goto 4, 3) := by decide +kernel
theorem dX2_whyNot_88 : decode cX2_whyNot 88 = .ok (.iconst 0, 1) := by decide +kernel
theorem dX2_whyNot_89 : decode cX2_whyNot 89 = .ok (.ireturn, 1) := by decide +kernel
set_option maxRecDepth 20000 in
theorem ggX2_advance_X2_whyNot : GoodIn wsX2_advance wsX2_whyNot := goodIn_r _ [5, 6, 7, 8, 9, 10, 11, 12, 4, 13, 14, 15, 16, 17, 18, 19, 20, 21, 22, 23, 24, 25, 26, 27, 28, 29, 30, 31, 32, 33, 34, 35, 36, 37, 38, 39, 40, 41, 42, 43, 44, 45, 46, 47, 48, 49, 50, 51, 52, 53, 54, 55, 56, 57, 92, 93, 94, 95, 96, 97, 98, 99, 100, 101, 102, 103, 104, 105, 106, 107] (by decide +kernel) (by decide +kernel)
set_option maxRecDepth 20000 in
theorem gX2_advance_X2_whyNot : GoodIn wsX2_advance (wsV RX2 99 RX2 yX2_whyNot wsX2_whyNot) := goodIn_app (goodIn_of _ (by decide +kernel)) ggX2_advance_X2_whyNot
set_option maxRecDepth 20000 in
theorem ggX2_advance_X2_makeStep : GoodIn wsX2_advance wsX2_makeStep := goodIn_r _ [61, 9, 7, 37, 62, 63, 20, 21, 22, 17, 23, 24, 25, 26, 27, 28, 29, 30, 31, 32, 19, 33, 34, 35, 4, 36, 38, 39, 40, 41, 42, 43, 44, 45, 46, 47, 48, 49, 50, 51, 52, 53, 54, 55, 56, 64, 65, 66, 67, 68, 69, 70, 71, 72, 73, 74, 75, 76, 77, 78, 79, 80, 81, 82, 83, 84, 6, 85, 86, 8, 87, 88, 89, 90, 91, 92, 93, 94, 95, 96, 97, 98, 99, 100, 101, 102, 103, 104, 105, 106, 107] (by decide +kernel) (by decide +kernel)
set_option maxRecDepth 20000 in
theorem gX2_advance_X2_makeStep : GoodIn wsX2_advance (wsV RX2 102 RX2 yX2_makeStep wsX2_makeStep) := goodIn_app (goodIn_of _ (by decide +kernel)) ggX2_advance_X2_makeStep
theorem dX2_advance_0 : decode cX2_advance 0 = .ok (.iconst 0, 1) := by decide +kernel
theorem dX2_advance_1 : decode cX2_advance 1 = .ok (.istore_n 2, 1) := by decide +kernel
theorem dX2_advance_2 : decode cX2_advance 2 = .ok (.iload_n 2, 1) := by decide +kernel
theorem dX2_advance_3 : decode cX2_advance 3 = .ok (.iload_n 1, 1) := by decide +kernel
theorem dX2_advance_4 : decode cX2_advance 4 = .ok (.if_icmp .ge 22, 3) := by decide +kernel
theorem dX2_advance_7 : decode cX2_advance 7 = .ok (.aload_n 0, 1) := by decide +kernel
theorem dX2_advance_8 : decode cX2_advance 8 = .ok (.invokevirtual 99, 3) := by decide +kernel
theorem dX2_advance_11 : decode cX2_advance 11 = .ok (.ifCond .eq 5, 3) := by decide +kernel
theorem dX2_advance_14 : decode cX2_advance 14 = .ok (.iload_n 2, 1) := by decide +kernel
theorem dX2_advance_15 : decode cX2_advance 15 = .ok (.ireturn, 1) := by decide +kernel
theorem dX2_advance_16 : decode cX2_advance 16 = .ok (.aload_n 0, 1) := by decide +kernel
theorem dX2_advance_17 : decode cX2_advance 17 = .ok (.invokevirtual 102, 3) := by decide +kernel
theorem dX2_advance_20 : decode cX2_advance 20 = .ok (.iinc 2 1, 3) := by decide +kernel
theorem dX2_advance_23 : decode cX2_advance 23 = .ok (.goto (-21), 3) := by decide +kernel
theorem dX2_advance_26 : decode cX2_advance 26 = .ok (.iload_n 1, 1) := by decide +kernel
theorem dX2_advance_27 : decode cX2_advance 27 = .ok (.ireturn, 1) := by decide +kernel
set_option maxRecDepth 20000 in
theorem ggX2_draftFor_X2_settingOf : GoodIn wsX2_draftFor wsX2_settingOf := goodIn_r _ [13, 14, 22, 23, 24, 25, 26, 27, 28, 29, 30, 31, 32, 33] (by decide +kernel) (by decide +kernel)
set_option maxRecDepth 20000 in
theorem gX2_draftFor_X2_settingOf : GoodIn wsX2_draftFor (wsV RX2 105 RX2 yX2_settingOf wsX2_settingOf) := goodIn_app (goodIn_of _ (by decide +kernel)) ggX2_draftFor_X2_settingOf
set_option maxRecDepth 20000 in
theorem ggX2_draftFor_X1_feedOf : GoodIn wsX2_draftFor wsX1_feedOf := goodIn_r _ [19, 20, 21, 34, 35] (by decide +kernel) (by decide +kernel)
set_option maxRecDepth 20000 in
theorem gX2_draftFor_X1_feedOf : GoodIn wsX2_draftFor (wsV RX2 108 RX1 yX1_feedOf wsX1_feedOf) := goodIn_app (goodIn_of _ (by decide +kernel)) ggX2_draftFor_X1_feedOf
theorem dX2_draftFor_0 : decode cX2_draftFor 0 = .ok (.aload_n 0, 1) := by decide +kernel
theorem dX2_draftFor_1 : decode cX2_draftFor 1 = .ok (.iconst 0, 1) := by decide +kernel
theorem dX2_draftFor_2 : decode cX2_draftFor 2 = .ok (.invokevirtual 105, 3) := by decide +kernel
theorem dX2_draftFor_5 : decode cX2_draftFor 5 = .ok (.istore_n 2, 1) := by decide +kernel
theorem dX2_draftFor_6 : decode cX2_draftFor 6 = .ok (.iload_n 2, 1) := by decide +kernel
theorem dX2_draftFor_7 : decode cX2_draftFor 7 = .ok (.ifCond .ne 7, 3) := by decide +kernel
theorem dX2_draftFor_10 : decode cX2_draftFor 10 = .ok (.iload_n 1, 1) := by decide +kernel
theorem dX2_draftFor_11 : decode cX2_draftFor 11 = .ok (.goto 13, 3) := by decide +kernel
theorem dX2_draftFor_14 : decode cX2_draftFor 14 = .ok (.aload_n 0, 1) := by decide +kernel
theorem dX2_draftFor_15 : decode cX2_draftFor 15 = .ok (.getfield 21, 3) := by decide +kernel
theorem dX2_draftFor_18 : decode cX2_draftFor 18 = .ok (.iload_n 2, 1) := by decide +kernel
theorem dX2_draftFor_19 : decode cX2_draftFor 19 = .ok (.iconst 1, 1) := by decide +kernel
theorem dX2_draftFor_20 : decode cX2_draftFor 20 = .ok (.isub, 1) := by decide +kernel
theorem dX2_draftFor_21 : decode cX2_draftFor 21 = .ok (.invokevirtual 108, 3) := by decide +kernel
theorem dX2_draftFor_24 : decode cX2_draftFor 24 = .ok (.istore_n 3, 1) := by decide +kernel
theorem dX2_draftFor_25 : decode cX2_draftFor 25 = .ok (.aload_n 0, 1) := by decide +kernel
theorem dX2_draftFor_26 : decode cX2_draftFor 26 = .ok (.iconst 2, 1) := by decide +kernel
theorem dX2_draftFor_27 : decode cX2_draftFor 27 = .ok (.invokevirtual 105, 3) := by decide +kernel
theorem dX2_draftFor_30 : decode cX2_draftFor 30 = .ok (.istore 4, 2) := by decide +kernel
theorem dX2_draftFor_32 : decode cX2_draftFor 32 = .ok (.aload_n 0, 1) := by decide +kernel
theorem dX2_draftFor_33 : decode cX2_draftFor 33 = .ok (.iconst 3, 1) := by decide +kernel
theorem dX2_draftFor_34 : decode cX2_draftFor 34 = .ok (.invokevirtual 105, 3) := by decide +kernel
theorem dX2_draftFor_37 : decode cX2_draftFor 37 = .ok (.ifCond .eq 14, 3) := by decide +kernel
theorem dX2_draftFor_40 : decode cX2_draftFor 40 = .ok (.iload_n 3, 1) := by decide +kernel
theorem dX2_draftFor_41 : decode cX2_draftFor 41 = .ok (.iconst (-1), 1) := by decide +kernel
theorem dX2_draftFor_42 : decode cX2_draftFor 42 = .ok (.if_icmp .eq 9, 3) := by decide +kernel
theorem dX2_draftFor_45 : decode cX2_draftFor 45 = .ok (.iload 4, 2) := by decide +kernel
theorem dX2_draftFor_47 : decode cX2_draftFor 47 = .ok (.iconst 1, 1) := by decide +kernel
theorem dX2_draftFor_48 : decode cX2_draftFor 48 = .ok (.if_icmp .ge 9, 3) := by decide +kernel
theorem dX2_draftFor_51 : decode cX2_draftFor 51 = .ok (.aload_n 0, 1) := by decide +kernel
theorem dX2_draftFor_52 : decode cX2_draftFor 52 = .ok (.iconst 1, 1) := by decide +kernel
theorem dX2_draftFor_53 : decode cX2_draftFor 53 = .ok (.invokevirtual 105, 3) := by decide +kernel
theorem dX2_draftFor_56 : decode cX2_draftFor 56 = .ok (.ireturn, 1) := by decide +kernel
theorem dX2_draftFor_57 : decode cX2_draftFor 57 = .ok (.iload_n 3, 1) := by decide +kernel
theorem dX2_draftFor_58 : decode cX2_draftFor 58 = .ok (.iload 4, 2) := by decide +kernel
theorem dX2_draftFor_60 : decode cX2_draftFor 60 = .ok (.iconst 2, 1) := by decide +kernel
theorem dX2_draftFor_61 : decode cX2_draftFor 61 = .ok (.idiv, 1) := by decide +kernel
theorem dX2_draftFor_62 : decode cX2_draftFor 62 = .ok (.iadd, 1) := by decide +kernel
theorem dX2_draftFor_63 : decode cX2_draftFor 63 = .ok (.iload 4, 2) := by decide +kernel
theorem dX2_draftFor_65 : decode cX2_draftFor 65 = .ok (.idiv, 1) := by decide +kernel
theorem dX2_draftFor_66 : decode cX2_draftFor 66 = .ok (.istore 5, 2) := by decide +kernel
theorem dX2_draftFor_68 : decode cX2_draftFor 68 = .ok (.iconst 1, 1) := by decide +kernel
theorem dX2_draftFor_69 : decode cX2_draftFor 69 = .ok (.bipush 8, 2) := by decide +kernel
theorem dX2_draftFor_71 : decode cX2_draftFor 71 = .ok (.iload 5, 2) := by decide +kernel
theorem dX2_draftFor_73 : decode cX2_draftFor 73 = .ok (.invokestatic 65, 3) := by decide +kernel
theorem dX2_draftFor_76 : decode cX2_draftFor 76 = .ok (.invokestatic 111, 3) := by decide +kernel
theorem dX2_draftFor_79 : decode cX2_draftFor 79 = .ok (.ireturn, 1) := by decide +kernel
set_option maxRecDepth 20000 in
theorem ggX2_makeStep_X0_frontsOf : GoodIn wsX2_makeStep wsX0_frontsOf := goodIn_r _ [10, 11, 12, 13, 9, 14, 15, 16, 17, 18, 19, 20, 87, 88] (by decide +kernel) (by decide +kernel)
set_option maxRecDepth 20000 in
theorem gX2_makeStep_X0_frontsOf : GoodIn wsX2_makeStep (wsV RX2 89 RX0 yX0_frontsOf wsX0_frontsOf) := goodIn_app (goodIn_of _ (by decide +kernel)) ggX2_makeStep_X0_frontsOf
set_option maxRecDepth 20000 in
theorem ggX2_makeStep_X2_draftFor : GoodIn wsX2_makeStep wsX2_draftFor := goodIn_r _ [25, 3, 26, 27, 28, 29, 30, 31, 32, 33, 34, 35, 24, 36, 37, 38, 39, 40, 41, 42, 43, 44, 75, 76, 77, 78, 79, 80, 81, 82, 83, 84, 85, 86, 89, 90] (by decide +kernel) (by decide +kernel)
set_option maxRecDepth 20000 in
theorem gX2_makeStep_X2_draftFor : GoodIn wsX2_makeStep (wsV RX2 93 RX2 yX2_draftFor wsX2_draftFor) := goodIn_app (goodIn_of _ (by decide +kernel)) ggX2_makeStep_X2_draftFor
set_option maxRecDepth 20000 in
theorem ggX2_makeStep_X0_dropFronts : GoodIn wsX2_makeStep wsX0_dropFronts := goodIn_r _ [48, 49, 50, 51, 9, 52, 20, 15, 53, 54, 55, 56, 16, 17, 18, 19, 87, 88] (by decide +kernel) (by decide +kernel)
set_option maxRecDepth 20000 in
theorem gX2_makeStep_X0_dropFronts : GoodIn wsX2_makeStep (wsV RX2 114 RX0 yX0_dropFronts wsX0_dropFronts) := goodIn_app (goodIn_of _ (by decide +kernel)) ggX2_makeStep_X0_dropFronts
set_option maxRecDepth 20000 in
theorem ggX2_makeStep_X1_remember : GoodIn wsX2_makeStep wsX1_remember := goodIn_r _ [60, 44, 43, 61, 27, 28, 29, 89, 90] (by decide +kernel) (by decide +kernel)
set_option maxRecDepth 20000 in
theorem gX2_makeStep_X1_remember : GoodIn wsX2_makeStep (wsV RX2 118 RX1 yX1_remember wsX1_remember) := goodIn_app (goodIn_of _ (by decide +kernel)) ggX2_makeStep_X1_remember
set_option maxRecDepth 20000 in
theorem ggX2_makeStep_X2_layDown : GoodIn wsX2_makeStep wsX2_layDown := goodIn_r _ [65, 66, 67, 68, 1, 69, 70, 33, 34, 35, 24, 36, 37, 71, 72, 73, 9, 74, 20, 15, 16, 17, 18, 19, 75, 76, 77, 78, 79, 80, 81, 82, 83, 84, 85, 86, 87, 88] (by decide +kernel) (by decide +kernel)
set_option maxRecDepth 20000 in
theorem gX2_makeStep_X2_layDown : GoodIn wsX2_makeStep (wsV RX2 121 RX2 yX2_layDown wsX2_layDown) := goodIn_app (goodIn_of _ (by decide +kernel)) ggX2_makeStep_X2_layDown
theorem dX2_makeStep_0 : decode cX2_makeStep 0 = .ok (.aload_n 0, 1) := by decide +kernel
theorem dX2_makeStep_1 : decode cX2_makeStep 1 = .ok (.getfield 12, 3) := by decide +kernel
theorem dX2_makeStep_4 : decode cX2_makeStep 4 = .ok (.aload_n 0, 1) := by decide +kernel
theorem dX2_makeStep_5 : decode cX2_makeStep 5 = .ok (.getfield 29, 3) := by decide +kernel
theorem dX2_makeStep_8 : decode cX2_makeStep 8 = .ok (.invokevirtual 89, 3) := by decide +kernel
theorem dX2_makeStep_11 : decode cX2_makeStep 11 = .ok (.istore_n 1, 1) := by decide +kernel
theorem dX2_makeStep_12 : decode cX2_makeStep 12 = .ok (.aload_n 0, 1) := by decide +kernel
theorem dX2_makeStep_13 : decode cX2_makeStep 13 = .ok (.iload_n 1, 1) := by decide +kernel
theorem dX2_makeStep_14 : decode cX2_makeStep 14 = .ok (.invokevirtual 93, 3) := by decide +kernel
theorem dX2_makeStep_17 : decode cX2_makeStep 17 = .ok (.istore_n 2, 1) := by decide +kernel
theorem dX2_makeStep_18 : decode cX2_makeStep 18 = .ok (.iload_n 2, 1) := by decide +kernel
theorem dX2_makeStep_19 : decode cX2_makeStep 19 = .ok (.iconst 1, 1) := by decide +kernel
theorem dX2_makeStep_20 : decode cX2_makeStep 20 = .ok (.if_icmp .ge 4, 3) := by decide +kernel
theorem dX2_makeStep_23 : decode cX2_makeStep 23 = .ok (.return_, 1) := by decide +kernel
theorem dX2_makeStep_24 : decode cX2_makeStep 24 = .ok (.aload_n 0, 1) := by decide +kernel
theorem dX2_makeStep_25 : decode cX2_makeStep 25 = .ok (.getfield 12, 3) := by decide +kernel
theorem dX2_makeStep_28 : decode cX2_makeStep 28 = .ok (.aload_n 0, 1) := by decide +kernel
theorem dX2_makeStep_29 : decode cX2_makeStep 29 = .ok (.getfield 29, 3) := by decide +kernel
theorem dX2_makeStep_32 : decode cX2_makeStep 32 = .ok (.invokevirtual 114, 3) := by decide +kernel
theorem dX2_makeStep_35 : decode cX2_makeStep 35 = .ok (.aload_n 0, 1) := by decide +kernel
theorem dX2_makeStep_36 : decode cX2_makeStep 36 = .ok (.getfield 21, 3) := by decide +kernel
theorem dX2_makeStep_39 : decode cX2_makeStep 39 = .ok (.iload_n 1, 1) := by decide +kernel
theorem dX2_makeStep_40 : decode cX2_makeStep 40 = .ok (.invokevirtual 118, 3) := by decide +kernel
theorem dX2_makeStep_43 : decode cX2_makeStep 43 = .ok (.iload_n 1, 1) := by decide +kernel
theorem dX2_makeStep_44 : decode cX2_makeStep 44 = .ok (.iload_n 2, 1) := by decide +kernel
theorem dX2_makeStep_45 : decode cX2_makeStep 45 = .ok (.idiv, 1) := by decide +kernel
theorem dX2_makeStep_46 : decode cX2_makeStep 46 = .ok (.istore_n 3, 1) := by decide +kernel
theorem dX2_makeStep_47 : decode cX2_makeStep 47 = .ok (.iload_n 1, 1) := by decide +kernel
theorem dX2_makeStep_48 : decode cX2_makeStep 48 = .ok (.iload_n 2, 1) := by decide +kernel
theorem dX2_makeStep_49 : decode cX2_makeStep 49 = .ok (.irem, 1) := by decide +kernel
theorem dX2_makeStep_50 : decode cX2_makeStep 50 = .ok (.istore 4, 2) := by decide +kernel
theorem dX2_makeStep_52 : decode cX2_makeStep 52 = .ok (.iconst 0, 1) := by decide +kernel
theorem dX2_makeStep_53 : decode cX2_makeStep 53 = .ok (.istore 5, 2) := by decide +kernel
theorem dX2_makeStep_55 : decode cX2_makeStep 55 = .ok (.iload 5, 2) := by decide +kernel
theorem dX2_makeStep_57 : decode cX2_makeStep 57 = .ok (.iload_n 2, 1) := by decide +kernel
theorem dX2_makeStep_58 : decode cX2_makeStep 58 = .ok (.if_icmp .ge 27, 3) := by decide +kernel
theorem dX2_makeStep_61 : decode cX2_makeStep 61 = .ok (.aload_n 0, 1) := by decide +kernel
theorem dX2_makeStep_62 : decode cX2_makeStep 62 = .ok (.iload 5, 2) := by decide +kernel
theorem dX2_makeStep_64 : decode cX2_makeStep 64 = .ok (.iload 4, 2) := by decide +kernel
theorem dX2_makeStep_66 : decode cX2_makeStep 66 = .ok (.if_icmp .ge 9, 3) := by decide +kernel
theorem dX2_makeStep_69 : decode cX2_makeStep 69 = .ok (.iload_n 3, 1) := by decide +kernel
theorem dX2_makeStep_70 : decode cX2_makeStep 70 = .ok (.iconst 1, 1) := by decide +kernel
theorem dX2_makeStep_71 : decode cX2_makeStep 71 = .ok (.iadd, 1) := by decide +kernel
theorem dX2_makeStep_72 : decode cX2_makeStep 72 = .ok (.goto 4, 3) := by decide +kernel
theorem dX2_makeStep_75 : decode cX2_makeStep 75 = .ok (.iload_n 3, 1) := by decide +kernel
theorem dX2_makeStep_76 : decode cX2_makeStep 76 = .ok (.invokevirtual 121, 3) := by decide +kernel
theorem dX2_makeStep_79 : decode cX2_makeStep 79 = .ok (.iinc 5 1, 3) := by decide +kernel
theorem dX2_makeStep_82 : decode cX2_makeStep 82 = .ok (.goto (-27), 3) := by decide +kernel
theorem dX2_makeStep_85 : decode cX2_makeStep 85 = .ok (.aload_n 0, 1) := by decide +kernel
theorem dX2_makeStep_86 : decode cX2_makeStep 86 = .ok (.dup, 1) := by decide +kernel
theorem dX2_makeStep_87 : decode cX2_makeStep 87 = .ok (.getfield 40, 3) := by decide +kernel
theorem dX2_makeStep_90 : decode cX2_makeStep 90 = .ok (.iconst 1, 1) := by decide +kernel
theorem dX2_makeStep_91 : decode cX2_makeStep 91 = .ok (.iadd, 1) := by decide +kernel
theorem dX2_makeStep_92 : decode cX2_makeStep 92 = .ok (.putfield 40, 3) := by decide +kernel
theorem dX2_makeStep_95 : decode cX2_makeStep 95 = .ok (.aload_n 0, 1) := by decide +kernel
theorem dX2_makeStep_96 : decode cX2_makeStep 96 = .ok (.iload_n 2, 1) := by decide +kernel
theorem dX2_makeStep_97 : decode cX2_makeStep 97 = .ok (.putfield 43, 3) := by decide +kernel
theorem dX2_makeStep_100 : decode cX2_makeStep 100 = .ok (.return_, 1) := by decide +kernel
set_option maxRecDepth 20000 in
theorem ggX2_layDown_X2_settingOf : GoodIn wsX2_layDown wsX2_settingOf := goodIn_r _ [11, 12, 24, 25, 26, 27, 28, 29, 30, 31, 32, 33, 34, 35] (by decide +kernel) (by decide +kernel)
set_option maxRecDepth 20000 in
theorem gX2_layDown_X2_settingOf : GoodIn wsX2_layDown (wsV RX2 105 RX2 yX2_settingOf wsX2_settingOf) := goodIn_app (goodIn_of _ (by decide +kernel)) ggX2_layDown_X2_settingOf
set_option maxRecDepth 20000 in
theorem ggX2_layDown_X0_addBack : GoodIn wsX2_layDown wsX0_addBack := goodIn_r _ [17, 18, 19, 20, 21, 22, 16, 23, 36, 37] (by decide +kernel) (by decide +kernel)
set_option maxRecDepth 20000 in
theorem gX2_layDown_X0_addBack : GoodIn wsX2_layDown (wsV RX2 77 RX0 yX0_addBack wsX0_addBack) := goodIn_app (goodIn_of _ (by decide +kernel)) ggX2_layDown_X0_addBack
theorem dX2_layDown_0 : decode cX2_layDown 0 = .ok (.iload_n 1, 1) := by decide +kernel
theorem dX2_layDown_1 : decode cX2_layDown 1 = .ok (.aload_n 0, 1) := by decide +kernel
theorem dX2_layDown_2 : decode cX2_layDown 2 = .ok (.iconst 4, 1) := by decide +kernel
theorem dX2_layDown_3 : decode cX2_layDown 3 = .ok (.invokevirtual 105, 3) := by decide +kernel
theorem dX2_layDown_6 : decode cX2_layDown 6 = .ok (.if_icmp .le 31, 3) := by decide +kernel
theorem dX2_layDown_9 : decode cX2_layDown 9 = .ok (.aload_n 0, 1) := by decide +kernel
theorem dX2_layDown_10 : decode cX2_layDown 10 = .ok (.iconst 1, 1) := by decide +kernel
theorem dX2_layDown_11 : decode cX2_layDown 11 = .ok (.putfield 36, 3) := by decide +kernel
theorem dX2_layDown_14 : decode cX2_layDown 14 = .ok (.aload_n 0, 1) := by decide +kernel
theorem dX2_layDown_15 : decode cX2_layDown 15 = .ok (.dup, 1) := by decide +kernel
theorem dX2_layDown_16 : decode cX2_layDown 16 = .ok (.getfield 46, 3) := by decide +kernel
theorem dX2_layDown_19 : decode cX2_layDown 19 = .ok (.iconst 1, 1) := by decide +kernel
theorem dX2_layDown_20 : decode cX2_layDown 20 = .ok (.iadd, 1) := by decide +kernel
theorem dX2_layDown_21 : decode cX2_layDown 21 = .ok (.putfield 46, 3) := by decide +kernel
theorem dX2_layDown_24 : decode cX2_layDown 24 = .ok (.aload_n 0, 1) := by decide +kernel
theorem dX2_layDown_25 : decode cX2_layDown 25 = .ok (.dup, 1) := by decide +kernel
theorem dX2_layDown_26 : decode cX2_layDown 26 = .ok (.getfield 49, 3) := by decide +kernel
theorem dX2_layDown_29 : decode cX2_layDown 29 = .ok (.iload_n 1, 1) := by decide +kernel
theorem dX2_layDown_30 : decode cX2_layDown 30 = .ok (.iadd, 1) := by decide +kernel
theorem dX2_layDown_31 : decode cX2_layDown 31 = .ok (.putfield 49, 3) := by decide +kernel
theorem dX2_layDown_34 : decode cX2_layDown 34 = .ok (.goto 25, 3) := by decide +kernel
theorem dX2_layDown_37 : decode cX2_layDown 37 = .ok (.aload_n 0, 1) := by decide +kernel
theorem dX2_layDown_38 : decode cX2_layDown 38 = .ok (.getfield 12, 3) := by decide +kernel
theorem dX2_layDown_41 : decode cX2_layDown 41 = .ok (.aload_n 0, 1) := by decide +kernel
theorem dX2_layDown_42 : decode cX2_layDown 42 = .ok (.getfield 33, 3) := by decide +kernel
theorem dX2_layDown_45 : decode cX2_layDown 45 = .ok (.iload_n 1, 1) := by decide +kernel
theorem dX2_layDown_46 : decode cX2_layDown 46 = .ok (.invokevirtual 77, 3) := by decide +kernel
theorem dX2_layDown_49 : decode cX2_layDown 49 = .ok (.aload_n 0, 1) := by decide +kernel
theorem dX2_layDown_50 : decode cX2_layDown 50 = .ok (.dup, 1) := by decide +kernel
theorem dX2_layDown_51 : decode cX2_layDown 51 = .ok (.getfield 55, 3) := by decide +kernel
theorem dX2_layDown_54 : decode cX2_layDown 54 = .ok (.iconst 1, 1) := by decide +kernel
theorem dX2_layDown_55 : decode cX2_layDown 55 = .ok (.iadd, 1) := by decide +kernel
theorem dX2_layDown_56 : decode cX2_layDown 56 = .ok (.putfield 55, 3) := by decide +kernel
theorem dX2_layDown_59 : decode cX2_layDown 59 = .ok (.return_, 1) := by decide +kernel
