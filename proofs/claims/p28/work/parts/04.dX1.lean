theorem dX1_init_0 : decode cX1_init 0 = .ok (.aload_n 0, 1) := by decide +kernel
theorem dX1_init_1 : decode cX1_init 1 = .ok (.invokespecial 3, 3) := by decide +kernel
theorem dX1_init_4 : decode cX1_init 4 = .ok (.aload_n 0, 1) := by decide +kernel
theorem dX1_init_5 : decode cX1_init 5 = .ok (.bipush 7, 2) := by decide +kernel
theorem dX1_init_7 : decode cX1_init 7 = .ok (.newarray .int, 2) := by decide +kernel
theorem dX1_init_9 : decode cX1_init 9 = .ok (.putfield 9, 3) := by decide +kernel
theorem dX1_init_12 : decode cX1_init 12 = .ok (.aload_n 0, 1) := by decide +kernel
theorem dX1_init_13 : decode cX1_init 13 = .ok (.iconst 0, 1) := by decide +kernel
theorem dX1_init_14 : decode cX1_init 14 = .ok (.putfield 15, 3) := by decide +kernel
theorem dX1_init_17 : decode cX1_init 17 = .ok (.return_, 1) := by decide +kernel
theorem dX1_copyFrom_0 : decode cX1_copyFrom 0 = .ok (.aload_n 1, 1) := by decide +kernel
theorem dX1_copyFrom_1 : decode cX1_copyFrom 1 = .ok (.getfield 9, 3) := by decide +kernel
theorem dX1_copyFrom_4 : decode cX1_copyFrom 4 = .ok (.iconst 0, 1) := by decide +kernel
theorem dX1_copyFrom_5 : decode cX1_copyFrom 5 = .ok (.aload_n 0, 1) := by decide +kernel
theorem dX1_copyFrom_6 : decode cX1_copyFrom 6 = .ok (.getfield 9, 3) := by decide +kernel
theorem dX1_copyFrom_9 : decode cX1_copyFrom 9 = .ok (.iconst 0, 1) := by decide +kernel
theorem dX1_copyFrom_10 : decode cX1_copyFrom 10 = .ok (.aload_n 1, 1) := by decide +kernel
theorem dX1_copyFrom_11 : decode cX1_copyFrom 11 = .ok (.getfield 9, 3) := by decide +kernel
theorem dX1_copyFrom_14 : decode cX1_copyFrom 14 = .ok (.arraylength, 1) := by decide +kernel
theorem dX1_copyFrom_15 : decode cX1_copyFrom 15 = .ok (.aload_n 0, 1) := by decide +kernel
theorem dX1_copyFrom_16 : decode cX1_copyFrom 16 = .ok (.getfield 9, 3) := by decide +kernel
theorem dX1_copyFrom_19 : decode cX1_copyFrom 19 = .ok (.arraylength, 1) := by decide +kernel
theorem dX1_copyFrom_20 : decode cX1_copyFrom 20 = .ok (.invokestatic 19, 3) := by decide +kernel
theorem dX1_copyFrom_23 : decode cX1_copyFrom 23 = .ok (.invokestatic 25, 3) := by decide +kernel
theorem dX1_copyFrom_26 : decode cX1_copyFrom 26 = .ok (.aload_n 0, 1) := by decide +kernel
theorem dX1_copyFrom_27 : decode cX1_copyFrom 27 = .ok (.aload_n 1, 1) := by decide +kernel
theorem dX1_copyFrom_28 : decode cX1_copyFrom 28 = .ok (.getfield 15, 3) := by decide +kernel
theorem dX1_copyFrom_31 : decode cX1_copyFrom 31 = .ok (.putfield 15, 3) := by decide +kernel
theorem dX1_copyFrom_34 : decode cX1_copyFrom 34 = .ok (.return_, 1) := by decide +kernel
theorem dX1_remember_0 : decode cX1_remember 0 = .ok (.iload_n 1, 1) := by decide +kernel
theorem dX1_remember_1 : decode cX1_remember 1 = .ok (.istore_n 2, 1) := by decide +kernel
theorem dX1_remember_2 : decode cX1_remember 2 = .ok (.iconst 0, 1) := by decide +kernel
theorem dX1_remember_3 : decode cX1_remember 3 = .ok (.istore_n 3, 1) := by decide +kernel
theorem dX1_remember_4 : decode cX1_remember 4 = .ok (.iload_n 3, 1) := by decide +kernel
theorem dX1_remember_5 : decode cX1_remember 5 = .ok (.aload_n 0, 1) := by decide +kernel
theorem dX1_remember_6 : decode cX1_remember 6 = .ok (.getfield 9, 3) := by decide +kernel
theorem dX1_remember_9 : decode cX1_remember 9 = .ok (.arraylength, 1) := by decide +kernel
theorem dX1_remember_10 : decode cX1_remember 10 = .ok (.if_icmp .ge 27, 3) := by decide +kernel
theorem dX1_remember_13 : decode cX1_remember 13 = .ok (.aload_n 0, 1) := by decide +kernel
theorem dX1_remember_14 : decode cX1_remember 14 = .ok (.getfield 9, 3) := by decide +kernel
theorem dX1_remember_17 : decode cX1_remember 17 = .ok (.iload_n 3, 1) := by decide +kernel
theorem dX1_remember_18 : decode cX1_remember 18 = .ok (.iaload, 1) := by decide +kernel
theorem dX1_remember_19 : decode cX1_remember 19 = .ok (.istore 4, 2) := by decide +kernel
theorem dX1_remember_21 : decode cX1_remember 21 = .ok (.aload_n 0, 1) := by decide +kernel
theorem dX1_remember_22 : decode cX1_remember 22 = .ok (.getfield 9, 3) := by decide +kernel
theorem dX1_remember_25 : decode cX1_remember 25 = .ok (.iload_n 3, 1) := by decide +kernel
theorem dX1_remember_26 : decode cX1_remember 26 = .ok (.iload_n 2, 1) := by decide +kernel
theorem dX1_remember_27 : decode cX1_remember 27 = .ok (.iastore, 1) := by decide +kernel
theorem dX1_remember_28 : decode cX1_remember 28 = .ok (.iload 4, 2) := by decide +kernel
theorem dX1_remember_30 : decode cX1_remember 30 = .ok (.istore_n 2, 1) := by decide +kernel
theorem dX1_remember_31 : decode cX1_remember 31 = .ok (.iinc 3 1, 3) := by decide +kernel
theorem dX1_remember_34 : decode cX1_remember 34 = .ok (.goto (-30), 3) := by decide +kernel
theorem dX1_remember_37 : decode cX1_remember 37 = .ok (.aload_n 0, 1) := by decide +kernel
theorem dX1_remember_38 : decode cX1_remember 38 = .ok (.aload_n 0, 1) := by decide +kernel
theorem dX1_remember_39 : decode cX1_remember 39 = .ok (.getfield 15, 3) := by decide +kernel
theorem dX1_remember_42 : decode cX1_remember 42 = .ok (.iconst 1, 1) := by decide +kernel
theorem dX1_remember_43 : decode cX1_remember 43 = .ok (.iadd, 1) := by decide +kernel
theorem dX1_remember_44 : decode cX1_remember 44 = .ok (.aload_n 0, 1) := by decide +kernel
theorem dX1_remember_45 : decode cX1_remember 45 = .ok (.getfield 9, 3) := by decide +kernel
theorem dX1_remember_48 : decode cX1_remember 48 = .ok (.arraylength, 1) := by decide +kernel
theorem dX1_remember_49 : decode cX1_remember 49 = .ok (.invokestatic 19, 3) := by decide +kernel
theorem dX1_remember_52 : decode cX1_remember 52 = .ok (.putfield 15, 3) := by decide +kernel
theorem dX1_remember_55 : decode cX1_remember 55 = .ok (.return_, 1) := by decide +kernel
theorem dX1_forget_0 : decode cX1_forget 0 = .ok (.aload_n 0, 1) := by decide +kernel
theorem dX1_forget_1 : decode cX1_forget 1 = .ok (.iconst 0, 1) := by decide +kernel
theorem dX1_forget_2 : decode cX1_forget 2 = .ok (.putfield 15, 3) := by decide +kernel
theorem dX1_forget_5 : decode cX1_forget 5 = .ok (.return_, 1) := by decide +kernel
theorem dX1_feedOf_0 : decode cX1_feedOf 0 = .ok (.iload_n 1, 1) := by decide +kernel
theorem dX1_feedOf_1 : decode cX1_feedOf 1 = .ok (.ifCond .lt 29, 3) := by decide +kernel
theorem dX1_feedOf_4 : decode cX1_feedOf 4 = .ok (.iload_n 1, 1) := by decide +kernel
theorem dX1_feedOf_5 : decode cX1_feedOf 5 = .ok (.aload_n 0, 1) := by decide +kernel
theorem dX1_feedOf_6 : decode cX1_feedOf 6 = .ok (.getfield 15, 3) := by decide +kernel
theorem dX1_feedOf_9 : decode cX1_feedOf 9 = .ok (.if_icmp .ge 21, 3) := by decide +kernel
theorem dX1_feedOf_12 : decode cX1_feedOf 12 = .ok (.iload_n 1, 1) := by decide +kernel
theorem dX1_feedOf_13 : decode cX1_feedOf 13 = .ok (.aload_n 0, 1) := by decide +kernel
theorem dX1_feedOf_14 : decode cX1_feedOf 14 = .ok (.getfield 9, 3) := by decide +kernel
theorem dX1_feedOf_17 : decode cX1_feedOf 17 = .ok (.arraylength, 1) := by decide +kernel
theorem dX1_feedOf_18 : decode cX1_feedOf 18 = .ok (.if_icmp .ge 12, 3) := by decide +kernel
theorem dX1_feedOf_21 : decode cX1_feedOf 21 = .ok (.aload_n 0, 1) := by decide +kernel
theorem dX1_feedOf_22 : decode cX1_feedOf 22 = .ok (.getfield 9, 3) := by decide +kernel
theorem dX1_feedOf_25 : decode cX1_feedOf 25 = .ok (.iload_n 1, 1) := by decide +kernel
theorem dX1_feedOf_26 : decode cX1_feedOf 26 = .ok (.iaload, 1) := by decide +kernel
theorem dX1_feedOf_27 : decode cX1_feedOf 27 = .ok (.goto 4, 3) := by decide +kernel
theorem dX1_feedOf_30 : decode cX1_feedOf 30 = .ok (.iconst (-1), 1) := by decide +kernel
theorem dX1_feedOf_31 : decode cX1_feedOf 31 = .ok (.ireturn, 1) := by decide +kernel
