theorem dX3_init_0 : decode cX3_init 0 = .ok (.aload_n 0, 1) := by decide +kernel
theorem dX3_init_1 : decode cX3_init 1 = .ok (.invokespecial 1, 3) := by decide +kernel
theorem dX3_init_4 : decode cX3_init 4 = .ok (.return_, 1) := by decide +kernel
theorem dX3_set_0 : decode cX3_set 0 = .ok (.aload_n 0, 1) := by decide +kernel
theorem dX3_set_1 : decode cX3_set 1 = .ok (.lload_n 1, 1) := by decide +kernel
theorem dX3_set_2 : decode cX3_set 2 = .ok (.putfield 7, 3) := by decide +kernel
theorem dX3_set_5 : decode cX3_set 5 = .ok (.aload_n 0, 1) := by decide +kernel
theorem dX3_set_6 : decode cX3_set 6 = .ok (.lload_n 3, 1) := by decide +kernel
theorem dX3_set_7 : decode cX3_set 7 = .ok (.putfield 13, 3) := by decide +kernel
theorem dX3_set_10 : decode cX3_set 10 = .ok (.aload_n 0, 1) := by decide +kernel
theorem dX3_set_11 : decode cX3_set 11 = .ok (.lload 5, 2) := by decide +kernel
theorem dX3_set_13 : decode cX3_set 13 = .ok (.putfield 16, 3) := by decide +kernel
theorem dX3_set_16 : decode cX3_set 16 = .ok (.return_, 1) := by decide +kernel
set_option maxRecDepth 20000 in
theorem ggX3_read_X2_get : GoodIn wsX3_read wsX2_get := goodIn_r _ [5, 6, 7, 8, 9, 10, 4, 11, 12, 21, 22, 23] (by decide +kernel) (by decide +kernel)
set_option maxRecDepth 20000 in
theorem gX3_read_X2_get : GoodIn wsX3_read (wsV RX3 19 RX2 yX2_get wsX2_get) := goodIn_app (goodIn_of _ (by decide +kernel)) ggX3_read_X2_get
set_option maxRecDepth 20000 in
theorem ggX3_read_X3_set : GoodIn wsX3_read wsX3_set := goodIn_r _ [17, 18, 19, 20, 24, 25, 26] (by decide +kernel) (by decide +kernel)
set_option maxRecDepth 20000 in
theorem gX3_read_X3_set : GoodIn wsX3_read (wsV RX3 25 RX3 yX3_set wsX3_set) := goodIn_app (goodIn_of _ (by decide +kernel)) ggX3_read_X3_set
theorem dX3_read_0 : decode cX3_read 0 = .ok (.aload_n 0, 1) := by decide +kernel
theorem dX3_read_1 : decode cX3_read 1 = .ok (.aload_n 1, 1) := by decide +kernel
theorem dX3_read_2 : decode cX3_read 2 = .ok (.iload_n 2, 1) := by decide +kernel
theorem dX3_read_3 : decode cX3_read 3 = .ok (.iconst 0, 1) := by decide +kernel
theorem dX3_read_4 : decode cX3_read 4 = .ok (.invokevirtual 19, 3) := by decide +kernel
theorem dX3_read_7 : decode cX3_read 7 = .ok (.i2l, 1) := by decide +kernel
theorem dX3_read_8 : decode cX3_read 8 = .ok (.aload_n 1, 1) := by decide +kernel
theorem dX3_read_9 : decode cX3_read 9 = .ok (.iload_n 2, 1) := by decide +kernel
theorem dX3_read_10 : decode cX3_read 10 = .ok (.iconst 1, 1) := by decide +kernel
theorem dX3_read_11 : decode cX3_read 11 = .ok (.invokevirtual 19, 3) := by decide +kernel
theorem dX3_read_14 : decode cX3_read 14 = .ok (.i2l, 1) := by decide +kernel
theorem dX3_read_15 : decode cX3_read 15 = .ok (.aload_n 1, 1) := by decide +kernel
theorem dX3_read_16 : decode cX3_read 16 = .ok (.iload_n 2, 1) := by decide +kernel
theorem dX3_read_17 : decode cX3_read 17 = .ok (.iconst 2, 1) := by decide +kernel
theorem dX3_read_18 : decode cX3_read 18 = .ok (.invokevirtual 19, 3) := by decide +kernel
theorem dX3_read_21 : decode cX3_read 21 = .ok (.i2l, 1) := by decide +kernel
theorem dX3_read_22 : decode cX3_read 22 = .ok (.invokevirtual 25, 3) := by decide +kernel
theorem dX3_read_25 : decode cX3_read 25 = .ok (.return_, 1) := by decide +kernel
theorem dX3_get_0 : decode cX3_get 0 = .ok (.iload_n 1, 1) := by decide +kernel
theorem dX3_get_1 : decode cX3_get 1 = .ok (.ifCond .ne 8, 3) := by decide +kernel
theorem dX3_get_4 : decode cX3_get 4 = .ok (.aload_n 0, 1) := by decide +kernel
theorem dX3_get_5 : decode cX3_get 5 = .ok (.getfield 7, 3) := by decide +kernel
theorem dX3_get_8 : decode cX3_get 8 = .ok (.lreturn, 1) := by decide +kernel
theorem dX3_get_9 : decode cX3_get 9 = .ok (.iload_n 1, 1) := by decide +kernel
theorem dX3_get_10 : decode cX3_get 10 = .ok (.iconst 1, 1) := by decide +kernel
theorem dX3_get_11 : decode cX3_get 11 = .ok (.if_icmp .ne 10, 3) := by decide +kernel
theorem dX3_get_14 : decode cX3_get 14 = .ok (.aload_n 0, 1) := by decide +kernel
theorem dX3_get_15 : decode cX3_get 15 = .ok (.getfield 13, 3) := by decide +kernel
theorem dX3_get_18 : decode cX3_get 18 = .ok (.goto 7, 3) := by decide +kernel
theorem dX3_get_21 : decode cX3_get 21 = .ok (.aload_n 0, 1) := by decide +kernel
theorem dX3_get_22 : decode cX3_get 22 = .ok (.getfield 16, 3) := by decide +kernel
theorem dX3_get_25 : decode cX3_get 25 = .ok (.lreturn, 1) := by decide +kernel
theorem dX3_isZero_0 : decode cX3_isZero 0 = .ok (.aload_n 0, 1) := by decide +kernel
theorem dX3_isZero_1 : decode cX3_isZero 1 = .ok (.getfield 7, 3) := by decide +kernel
theorem dX3_isZero_4 : decode cX3_isZero 4 = .ok (.lconst 0, 1) := by decide +kernel
theorem dX3_isZero_5 : decode cX3_isZero 5 = .ok (.lcmp, 1) := by decide +kernel
theorem dX3_isZero_6 : decode cX3_isZero 6 = .ok (.ifCond .ne 25, 3) := by decide +kernel
theorem dX3_isZero_9 : decode cX3_isZero 9 = .ok (.aload_n 0, 1) := by decide +kernel
theorem dX3_isZero_10 : decode cX3_isZero 10 = .ok (.getfield 13, 3) := by decide +kernel
theorem dX3_isZero_13 : decode cX3_isZero 13 = .ok (.lconst 0, 1) := by decide +kernel
theorem dX3_isZero_14 : decode cX3_isZero 14 = .ok (.lcmp, 1) := by decide +kernel
theorem dX3_isZero_15 : decode cX3_isZero 15 = .ok (.ifCond .ne 16, 3) := by decide +kernel
theorem dX3_isZero_18 : decode cX3_isZero 18 = .ok (.aload_n 0, 1) := by decide +kernel
theorem dX3_isZero_19 : decode cX3_isZero 19 = .ok (.getfield 16, 3) := by decide +kernel
theorem dX3_isZero_22 : decode cX3_isZero 22 = .ok (.lconst 0, 1) := by decide +kernel
theorem dX3_isZero_23 : decode cX3_isZero 23 = .ok (.lcmp, 1) := by decide +kernel
theorem dX3_isZero_24 : decode cX3_isZero 24 = .ok (.ifCond .ne 7, 3) := by decide +kernel
theorem dX3_isZero_27 : decode cX3_isZero 27 = .ok (.iconst 1, 1) := by decide +kernel
theorem dX3_isZero_28 : decode cX3_isZero 28 = .ok (.goto 4, 3) := by decide +kernel
theorem dX3_isZero_31 : decode cX3_isZero 31 = .ok (.iconst 0, 1) := by decide +kernel
theorem dX3_isZero_32 : decode cX3_isZero 32 = .ok (.ireturn, 1) := by decide +kernel
set_option maxRecDepth 20000 in
theorem ggX3_isWithin_X4_isWithin : GoodIn wsX3_isWithin wsX4_isWithin := goodIn_r _ [6] (by decide +kernel) (by decide +kernel)
set_option maxRecDepth 20000 in
theorem gX3_isWithin_X4_isWithin_n29 : GoodIn wsX3_isWithin (wsX4_isWithin) := ggX3_isWithin_X4_isWithin
theorem dX3_isWithin_0 : decode cX3_isWithin 0 = .ok (.aload_n 0, 1) := by decide +kernel
theorem dX3_isWithin_1 : decode cX3_isWithin 1 = .ok (.getfield 7, 3) := by decide +kernel
theorem dX3_isWithin_4 : decode cX3_isWithin 4 = .ok (.lload_n 1, 1) := by decide +kernel
theorem dX3_isWithin_5 : decode cX3_isWithin 5 = .ok (.invokestatic 29, 3) := by decide +kernel
theorem dX3_isWithin_8 : decode cX3_isWithin 8 = .ok (.ifCond .eq 29, 3) := by decide +kernel
theorem dX3_isWithin_11 : decode cX3_isWithin 11 = .ok (.aload_n 0, 1) := by decide +kernel
theorem dX3_isWithin_12 : decode cX3_isWithin 12 = .ok (.getfield 13, 3) := by decide +kernel
theorem dX3_isWithin_15 : decode cX3_isWithin 15 = .ok (.lload_n 1, 1) := by decide +kernel
theorem dX3_isWithin_16 : decode cX3_isWithin 16 = .ok (.invokestatic 29, 3) := by decide +kernel
theorem dX3_isWithin_19 : decode cX3_isWithin 19 = .ok (.ifCond .eq 18, 3) := by decide +kernel
theorem dX3_isWithin_22 : decode cX3_isWithin 22 = .ok (.aload_n 0, 1) := by decide +kernel
theorem dX3_isWithin_23 : decode cX3_isWithin 23 = .ok (.getfield 16, 3) := by decide +kernel
theorem dX3_isWithin_26 : decode cX3_isWithin 26 = .ok (.lload_n 1, 1) := by decide +kernel
theorem dX3_isWithin_27 : decode cX3_isWithin 27 = .ok (.invokestatic 29, 3) := by decide +kernel
theorem dX3_isWithin_30 : decode cX3_isWithin 30 = .ok (.ifCond .eq 7, 3) := by decide +kernel
theorem dX3_isWithin_33 : decode cX3_isWithin 33 = .ok (.iconst 1, 1) := by decide +kernel
theorem dX3_isWithin_34 : decode cX3_isWithin 34 = .ok (.goto 4, 3) := by decide +kernel
theorem dX3_isWithin_37 : decode cX3_isWithin 37 = .ok (.iconst 0, 1) := by decide +kernel
theorem dX3_isWithin_38 : decode cX3_isWithin 38 = .ok (.ireturn, 1) := by decide +kernel
theorem dX3_times_0 : decode cX3_times 0 = .ok (.aload_n 0, 1) := by decide +kernel
theorem dX3_times_1 : decode cX3_times 1 = .ok (.getfield 7, 3) := by decide +kernel
theorem dX3_times_4 : decode cX3_times 4 = .ok (.aload_n 1, 1) := by decide +kernel
theorem dX3_times_5 : decode cX3_times 5 = .ok (.getfield 7, 3) := by decide +kernel
theorem dX3_times_8 : decode cX3_times 8 = .ok (.lmul, 1) := by decide +kernel
theorem dX3_times_9 : decode cX3_times 9 = .ok (.aload_n 0, 1) := by decide +kernel
theorem dX3_times_10 : decode cX3_times 10 = .ok (.getfield 13, 3) := by decide +kernel
theorem dX3_times_13 : decode cX3_times 13 = .ok (.aload_n 1, 1) := by decide +kernel
theorem dX3_times_14 : decode cX3_times 14 = .ok (.getfield 13, 3) := by decide +kernel
theorem dX3_times_17 : decode cX3_times 17 = .ok (.lmul, 1) := by decide +kernel
theorem dX3_times_18 : decode cX3_times 18 = .ok (.ladd, 1) := by decide +kernel
theorem dX3_times_19 : decode cX3_times 19 = .ok (.aload_n 0, 1) := by decide +kernel
theorem dX3_times_20 : decode cX3_times 20 = .ok (.getfield 16, 3) := by decide +kernel
theorem dX3_times_23 : decode cX3_times 23 = .ok (.aload_n 1, 1) := by decide +kernel
theorem dX3_times_24 : decode cX3_times 24 = .ok (.getfield 16, 3) := by decide +kernel
theorem dX3_times_27 : decode cX3_times 27 = .ok (.lmul, 1) := by decide +kernel
theorem dX3_times_28 : decode cX3_times 28 = .ok (.ladd, 1) := by decide +kernel
theorem dX3_times_29 : decode cX3_times 29 = .ok (.lreturn, 1) := by decide +kernel
theorem dX3_isBefore_0 : decode cX3_isBefore 0 = .ok (.aload_n 0, 1) := by decide +kernel
theorem dX3_isBefore_1 : decode cX3_isBefore 1 = .ok (.getfield 7, 3) := by decide +kernel
theorem dX3_isBefore_4 : decode cX3_isBefore 4 = .ok (.aload_n 1, 1) := by decide +kernel
theorem dX3_isBefore_5 : decode cX3_isBefore 5 = .ok (.getfield 7, 3) := by decide +kernel
theorem dX3_isBefore_8 : decode cX3_isBefore 8 = .ok (.lcmp, 1) := by decide +kernel
theorem dX3_isBefore_9 : decode cX3_isBefore 9 = .ok (.ifCond .eq 21, 3) := by decide +kernel
theorem dX3_isBefore_12 : decode cX3_isBefore 12 = .ok (.aload_n 0, 1) := by decide +kernel
theorem dX3_isBefore_13 : decode cX3_isBefore 13 = .ok (.getfield 7, 3) := by decide +kernel
theorem dX3_isBefore_16 : decode cX3_isBefore 16 = .ok (.aload_n 1, 1) := by decide +kernel
theorem dX3_isBefore_17 : decode cX3_isBefore 17 = .ok (.getfield 7, 3) := by decide +kernel
theorem dX3_isBefore_20 : decode cX3_isBefore 20 = .ok (.lcmp, 1) := by decide +kernel
theorem dX3_isBefore_21 : decode cX3_isBefore 21 = .ok (.ifCond .ge 7, 3) := by decide +kernel
theorem dX3_isBefore_24 : decode cX3_isBefore 24 = .ok (.iconst 1, 1) := by decide +kernel
theorem dX3_isBefore_25 : decode cX3_isBefore 25 = .ok (.goto 4, 3) := by decide +kernel
theorem dX3_isBefore_28 : decode cX3_isBefore 28 = .ok (.iconst 0, 1) := by decide +kernel
theorem dX3_isBefore_29 : decode cX3_isBefore 29 = .ok (.ireturn, 1) := by decide +kernel
theorem dX3_isBefore_30 : decode cX3_isBefore 30 = .ok (.aload_n 0, 1) := by decide +kernel
theorem dX3_isBefore_31 : decode cX3_isBefore 31 = .ok (.getfield 13, 3) := by decide +kernel
theorem dX3_isBefore_34 : decode cX3_isBefore 34 = .ok (.aload_n 1, 1) := by decide +kernel
theorem dX3_isBefore_35 : decode cX3_isBefore 35 = .ok (.getfield 13, 3) := by decide +kernel
theorem dX3_isBefore_38 : decode cX3_isBefore 38 = .ok (.lcmp, 1) := by decide +kernel
theorem dX3_isBefore_39 : decode cX3_isBefore 39 = .ok (.ifCond .eq 23, 3) := by decide +kernel
theorem dX3_isBefore_42 : decode cX3_isBefore 42 = .ok (.aload_n 0, 1) := by decide +kernel
theorem dX3_isBefore_43 : decode cX3_isBefore 43 = .ok (.getfield 13, 3) := by decide +kernel
theorem dX3_isBefore_46 : decode cX3_isBefore 46 = .ok (.aload_n 1, 1) := by decide +kernel
theorem dX3_isBefore_47 : decode cX3_isBefore 47 = .ok (.getfield 13, 3) := by decide +kernel
theorem dX3_isBefore_50 : decode cX3_isBefore 50 = .ok (.lcmp, 1) := by decide +kernel
theorem dX3_isBefore_51 : decode cX3_isBefore 51 = .ok (.ifCond .ge 7, 3) := by decide +kernel
theorem dX3_isBefore_54 : decode cX3_isBefore 54 = .ok (.iconst 1, 1) := by decide +kernel
theorem dX3_isBefore_55 : decode cX3_isBefore 55 = .ok (.goto 24, 3) := by decide +kernel
theorem dX3_isBefore_58 : decode cX3_isBefore 58 = .ok (.iconst 0, 1) := by decide +kernel
theorem dX3_isBefore_59 : decode cX3_isBefore 59 = .ok (.goto 20, 3) := by decide +kernel
theorem dX3_isBefore_62 : decode cX3_isBefore 62 = .ok (.aload_n 0, 1) := by decide +kernel
theorem dX3_isBefore_63 : decode cX3_isBefore 63 = .ok (.getfield 16, 3) := by decide +kernel
theorem dX3_isBefore_66 : decode cX3_isBefore 66 = .ok (.aload_n 1, 1) := by decide +kernel
theorem dX3_isBefore_67 : decode cX3_isBefore 67 = .ok (.getfield 16, 3) := by decide +kernel
theorem dX3_isBefore_70 : decode cX3_isBefore 70 = .ok (.lcmp, 1) := by decide +kernel
theorem dX3_isBefore_71 : decode cX3_isBefore 71 = .ok (.ifCond .ge 7, 3) := by decide +kernel
theorem dX3_isBefore_74 : decode cX3_isBefore 74 = .ok (.iconst 1, 1) := by decide +kernel
theorem dX3_isBefore_75 : decode cX3_isBefore 75 = .ok (.goto 4, 3) := by decide +kernel
theorem dX3_isBefore_78 : decode cX3_isBefore 78 = .ok (.iconst 0, 1) := by decide +kernel
theorem dX3_isBefore_79 : decode cX3_isBefore 79 = .ok (.ireturn, 1) := by decide +kernel
set_option maxRecDepth 20000 in
theorem ggX3_reduce_X4_commonDivisor : GoodIn wsX3_reduce wsX4_commonDivisor := goodIn_r _ [10] (by decide +kernel) (by decide +kernel)
set_option maxRecDepth 20000 in
theorem gX3_reduce_X4_commonDivisor_n41 : GoodIn wsX3_reduce (wsX4_commonDivisor) := ggX3_reduce_X4_commonDivisor
set_option maxRecDepth 20000 in
theorem ggX3_reduce_X3_set : GoodIn wsX3_reduce wsX3_set := goodIn_r _ [15, 1, 6, 7, 16, 17, 18] (by decide +kernel) (by decide +kernel)
set_option maxRecDepth 20000 in
theorem gX3_reduce_X3_set : GoodIn wsX3_reduce (wsV RX3 25 RX3 yX3_set wsX3_set) := goodIn_app (goodIn_of _ (by decide +kernel)) ggX3_reduce_X3_set
theorem dX3_reduce_0 : decode cX3_reduce 0 = .ok (.aload_n 0, 1) := by decide +kernel
theorem dX3_reduce_1 : decode cX3_reduce 1 = .ok (.getfield 7, 3) := by decide +kernel
theorem dX3_reduce_4 : decode cX3_reduce 4 = .ok (.invokestatic 35, 3) := by decide +kernel
theorem dX3_reduce_7 : decode cX3_reduce 7 = .ok (.aload_n 0, 1) := by decide +kernel
theorem dX3_reduce_8 : decode cX3_reduce 8 = .ok (.getfield 13, 3) := by decide +kernel
theorem dX3_reduce_11 : decode cX3_reduce 11 = .ok (.invokestatic 35, 3) := by decide +kernel
theorem dX3_reduce_14 : decode cX3_reduce 14 = .ok (.invokestatic 41, 3) := by decide +kernel
theorem dX3_reduce_17 : decode cX3_reduce 17 = .ok (.aload_n 0, 1) := by decide +kernel
theorem dX3_reduce_18 : decode cX3_reduce 18 = .ok (.getfield 16, 3) := by decide +kernel
theorem dX3_reduce_21 : decode cX3_reduce 21 = .ok (.invokestatic 35, 3) := by decide +kernel
theorem dX3_reduce_24 : decode cX3_reduce 24 = .ok (.invokestatic 41, 3) := by decide +kernel
theorem dX3_reduce_27 : decode cX3_reduce 27 = .ok (.lstore_n 1, 1) := by decide +kernel
theorem dX3_reduce_28 : decode cX3_reduce 28 = .ok (.aload_n 0, 1) := by decide +kernel
theorem dX3_reduce_29 : decode cX3_reduce 29 = .ok (.getfield 7, 3) := by decide +kernel
theorem dX3_reduce_32 : decode cX3_reduce 32 = .ok (.lconst 0, 1) := by decide +kernel
theorem dX3_reduce_33 : decode cX3_reduce 33 = .ok (.lcmp, 1) := by decide +kernel
theorem dX3_reduce_34 : decode cX3_reduce 34 = .ok (.ifCond .lt 39, 3) := by decide +kernel
theorem dX3_reduce_37 : decode cX3_reduce 37 = .ok (.aload_n 0, 1) := by decide +kernel
theorem dX3_reduce_38 : decode cX3_reduce 38 = .ok (.getfield 7, 3) := by decide +kernel
theorem dX3_reduce_41 : decode cX3_reduce 41 = .ok (.lconst 0, 1) := by decide +kernel
theorem dX3_reduce_42 : decode cX3_reduce 42 = .ok (.lcmp, 1) := by decide +kernel
theorem dX3_reduce_43 : decode cX3_reduce 43 = .ok (.ifCond .ne 33, 3) := by decide +kernel
theorem dX3_reduce_46 : decode cX3_reduce 46 = .ok (.aload_n 0, 1) := by decide +kernel
theorem dX3_reduce_47 : decode cX3_reduce 47 = .ok (.getfield 13, 3) := by decide +kernel
theorem dX3_reduce_50 : decode cX3_reduce 50 = .ok (.lconst 0, 1) := by decide +kernel
theorem dX3_reduce_51 : decode cX3_reduce 51 = .ok (.lcmp, 1) := by decide +kernel
theorem dX3_reduce_52 : decode cX3_reduce 52 = .ok (.ifCond .lt 21, 3) := by decide +kernel
theorem dX3_reduce_55 : decode cX3_reduce 55 = .ok (.aload_n 0, 1) := by decide +kernel
theorem dX3_reduce_56 : decode cX3_reduce 56 = .ok (.getfield 13, 3) := by decide +kernel
theorem dX3_reduce_59 : decode cX3_reduce 59 = .ok (.lconst 0, 1) := by decide +kernel
theorem dX3_reduce_60 : decode cX3_reduce 60 = .ok (.lcmp, 1) := by decide +kernel
theorem dX3_reduce_61 : decode cX3_reduce 61 = .ok (.ifCond .ne 15, 3) := by decide +kernel
theorem dX3_reduce_64 : decode cX3_reduce 64 = .ok (.aload_n 0, 1) := by decide +kernel
theorem dX3_reduce_65 : decode cX3_reduce 65 = .ok (.getfield 16, 3) := by decide +kernel
theorem dX3_reduce_68 : decode cX3_reduce 68 = .ok (.lconst 0, 1) := by decide +kernel
theorem dX3_reduce_69 : decode cX3_reduce 69 = .ok (.lcmp, 1) := by decide +kernel
theorem dX3_reduce_70 : decode cX3_reduce 70 = .ok (.ifCond .ge 6, 3) := by decide +kernel
theorem dX3_reduce_73 : decode cX3_reduce 73 = .ok (.lload_n 1, 1) := by decide +kernel
theorem dX3_reduce_74 : decode cX3_reduce 74 = .ok (.lneg, 1) := by decide +kernel
theorem dX3_reduce_75 : decode cX3_reduce 75 = .ok (.lstore_n 1, 1) := by decide +kernel
theorem dX3_reduce_76 : decode cX3_reduce 76 = .ok (.lload_n 1, 1) := by decide +kernel
theorem dX3_reduce_77 : decode cX3_reduce 77 = .ok (.lconst 0, 1) := by decide +kernel
theorem dX3_reduce_78 : decode cX3_reduce 78 = .ok (.lcmp, 1) := by decide +kernel
theorem dX3_reduce_79 : decode cX3_reduce 79 = .ok (.ifCond .eq 25, 3) := by decide +kernel
theorem dX3_reduce_82 : decode cX3_reduce 82 = .ok (.aload_n 0, 1) := by decide +kernel
theorem dX3_reduce_83 : decode cX3_reduce 83 = .ok (.aload_n 0, 1) := by decide +kernel
theorem dX3_reduce_84 : decode cX3_reduce 84 = .ok (.getfield 7, 3) := by decide +kernel
theorem dX3_reduce_87 : decode cX3_reduce 87 = .ok (.lload_n 1, 1) := by decide +kernel
theorem dX3_reduce_88 : decode cX3_reduce 88 = .ok (.ldiv, 1) := by decide +kernel
theorem dX3_reduce_89 : decode cX3_reduce 89 = .ok (.aload_n 0, 1) := by decide +kernel
theorem dX3_reduce_90 : decode cX3_reduce 90 = .ok (.getfield 13, 3) := by decide +kernel
theorem dX3_reduce_93 : decode cX3_reduce 93 = .ok (.lload_n 1, 1) := by decide +kernel
theorem dX3_reduce_94 : decode cX3_reduce 94 = .ok (.ldiv, 1) := by decide +kernel
theorem dX3_reduce_95 : decode cX3_reduce 95 = .ok (.aload_n 0, 1) := by decide +kernel
theorem dX3_reduce_96 : decode cX3_reduce 96 = .ok (.getfield 16, 3) := by decide +kernel
theorem dX3_reduce_99 : decode cX3_reduce 99 = .ok (.lload_n 1, 1) := by decide +kernel
theorem dX3_reduce_100 : decode cX3_reduce 100 = .ok (.ldiv, 1) := by decide +kernel
theorem dX3_reduce_101 : decode cX3_reduce 101 = .ok (.invokevirtual 25, 3) := by decide +kernel
theorem dX3_reduce_104 : decode cX3_reduce 104 = .ok (.return_, 1) := by decide +kernel
set_option maxRecDepth 20000 in
theorem ggX3_setAcross_X3_set : GoodIn wsX3_setAcross wsX3_set := goodIn_r _ [8, 3, 1, 2, 9, 10, 11] (by decide +kernel) (by decide +kernel)
set_option maxRecDepth 20000 in
theorem gX3_setAcross_X3_set : GoodIn wsX3_setAcross (wsV RX3 25 RX3 yX3_set wsX3_set) := goodIn_app (goodIn_of _ (by decide +kernel)) ggX3_setAcross_X3_set
theorem dX3_setAcross_0 : decode cX3_setAcross 0 = .ok (.aload_n 0, 1) := by decide +kernel
theorem dX3_setAcross_1 : decode cX3_setAcross 1 = .ok (.aload_n 1, 1) := by decide +kernel
theorem dX3_setAcross_2 : decode cX3_setAcross 2 = .ok (.getfield 13, 3) := by decide +kernel
theorem dX3_setAcross_5 : decode cX3_setAcross 5 = .ok (.aload_n 2, 1) := by decide +kernel
theorem dX3_setAcross_6 : decode cX3_setAcross 6 = .ok (.getfield 16, 3) := by decide +kernel
theorem dX3_setAcross_9 : decode cX3_setAcross 9 = .ok (.lmul, 1) := by decide +kernel
theorem dX3_setAcross_10 : decode cX3_setAcross 10 = .ok (.aload_n 1, 1) := by decide +kernel
theorem dX3_setAcross_11 : decode cX3_setAcross 11 = .ok (.getfield 16, 3) := by decide +kernel
theorem dX3_setAcross_14 : decode cX3_setAcross 14 = .ok (.aload_n 2, 1) := by decide +kernel
theorem dX3_setAcross_15 : decode cX3_setAcross 15 = .ok (.getfield 13, 3) := by decide +kernel
theorem dX3_setAcross_18 : decode cX3_setAcross 18 = .ok (.lmul, 1) := by decide +kernel
theorem dX3_setAcross_19 : decode cX3_setAcross 19 = .ok (.lsub, 1) := by decide +kernel
theorem dX3_setAcross_20 : decode cX3_setAcross 20 = .ok (.aload_n 1, 1) := by decide +kernel
theorem dX3_setAcross_21 : decode cX3_setAcross 21 = .ok (.getfield 16, 3) := by decide +kernel
theorem dX3_setAcross_24 : decode cX3_setAcross 24 = .ok (.aload_n 2, 1) := by decide +kernel
theorem dX3_setAcross_25 : decode cX3_setAcross 25 = .ok (.getfield 7, 3) := by decide +kernel
theorem dX3_setAcross_28 : decode cX3_setAcross 28 = .ok (.lmul, 1) := by decide +kernel
theorem dX3_setAcross_29 : decode cX3_setAcross 29 = .ok (.aload_n 1, 1) := by decide +kernel
theorem dX3_setAcross_30 : decode cX3_setAcross 30 = .ok (.getfield 7, 3) := by decide +kernel
theorem dX3_setAcross_33 : decode cX3_setAcross 33 = .ok (.aload_n 2, 1) := by decide +kernel
theorem dX3_setAcross_34 : decode cX3_setAcross 34 = .ok (.getfield 16, 3) := by decide +kernel
theorem dX3_setAcross_37 : decode cX3_setAcross 37 = .ok (.lmul, 1) := by decide +kernel
theorem dX3_setAcross_38 : decode cX3_setAcross 38 = .ok (.lsub, 1) := by decide +kernel
theorem dX3_setAcross_39 : decode cX3_setAcross 39 = .ok (.aload_n 1, 1) := by decide +kernel
theorem dX3_setAcross_40 : decode cX3_setAcross 40 = .ok (.getfield 7, 3) := by decide +kernel
theorem dX3_setAcross_43 : decode cX3_setAcross 43 = .ok (.aload_n 2, 1) := by decide +kernel
theorem dX3_setAcross_44 : decode cX3_setAcross 44 = .ok (.getfield 13, 3) := by decide +kernel
theorem dX3_setAcross_47 : decode cX3_setAcross 47 = .ok (.lmul, 1) := by decide +kernel
theorem dX3_setAcross_48 : decode cX3_setAcross 48 = .ok (.aload_n 1, 1) := by decide +kernel
theorem dX3_setAcross_49 : decode cX3_setAcross 49 = .ok (.getfield 13, 3) := by decide +kernel
theorem dX3_setAcross_52 : decode cX3_setAcross 52 = .ok (.aload_n 2, 1) := by decide +kernel
theorem dX3_setAcross_53 : decode cX3_setAcross 53 = .ok (.getfield 7, 3) := by decide +kernel
theorem dX3_setAcross_56 : decode cX3_setAcross 56 = .ok (.lmul, 1) := by decide +kernel
theorem dX3_setAcross_57 : decode cX3_setAcross 57 = .ok (.lsub, 1) := by decide +kernel
theorem dX3_setAcross_58 : decode cX3_setAcross 58 = .ok (.invokevirtual 25, 3) := by decide +kernel
theorem dX3_setAcross_61 : decode cX3_setAcross 61 = .ok (.return_, 1) := by decide +kernel
set_option maxRecDepth 20000 in
theorem ggX3_setPolar_X3_set : GoodIn wsX3_setPolar wsX3_set := goodIn_r _ [9, 2, 3, 4, 16, 17, 18] (by decide +kernel) (by decide +kernel)
set_option maxRecDepth 20000 in
theorem gX3_setPolar_X3_set : GoodIn wsX3_setPolar (wsV RX3 25 RX3 yX3_set wsX3_set) := goodIn_app (goodIn_of _ (by decide +kernel)) ggX3_setPolar_X3_set
theorem dX3_setPolar_0 : decode cX3_setPolar 0 = .ok (.aload_n 0, 1) := by decide +kernel
theorem dX3_setPolar_1 : decode cX3_setPolar 1 = .ok (.ldc2_w 45, 3) := by decide +kernel
theorem dX3_setPolar_4 : decode cX3_setPolar 4 = .ok (.aload_n 1, 1) := by decide +kernel
theorem dX3_setPolar_5 : decode cX3_setPolar 5 = .ok (.getfield 47, 3) := by decide +kernel
theorem dX3_setPolar_8 : decode cX3_setPolar 8 = .ok (.lmul, 1) := by decide +kernel
theorem dX3_setPolar_9 : decode cX3_setPolar 9 = .ok (.aload_n 2, 1) := by decide +kernel
theorem dX3_setPolar_10 : decode cX3_setPolar 10 = .ok (.getfield 7, 3) := by decide +kernel
theorem dX3_setPolar_13 : decode cX3_setPolar 13 = .ok (.lmul, 1) := by decide +kernel
theorem dX3_setPolar_14 : decode cX3_setPolar 14 = .ok (.aload_n 1, 1) := by decide +kernel
theorem dX3_setPolar_15 : decode cX3_setPolar 15 = .ok (.getfield 52, 3) := by decide +kernel
theorem dX3_setPolar_18 : decode cX3_setPolar 18 = .ok (.aload_n 2, 1) := by decide +kernel
theorem dX3_setPolar_19 : decode cX3_setPolar 19 = .ok (.getfield 13, 3) := by decide +kernel
theorem dX3_setPolar_22 : decode cX3_setPolar 22 = .ok (.lmul, 1) := by decide +kernel
theorem dX3_setPolar_23 : decode cX3_setPolar 23 = .ok (.ladd, 1) := by decide +kernel
theorem dX3_setPolar_24 : decode cX3_setPolar 24 = .ok (.aload_n 1, 1) := by decide +kernel
theorem dX3_setPolar_25 : decode cX3_setPolar 25 = .ok (.getfield 55, 3) := by decide +kernel
theorem dX3_setPolar_28 : decode cX3_setPolar 28 = .ok (.aload_n 2, 1) := by decide +kernel
theorem dX3_setPolar_29 : decode cX3_setPolar 29 = .ok (.getfield 16, 3) := by decide +kernel
theorem dX3_setPolar_32 : decode cX3_setPolar 32 = .ok (.lmul, 1) := by decide +kernel
theorem dX3_setPolar_33 : decode cX3_setPolar 33 = .ok (.ladd, 1) := by decide +kernel
theorem dX3_setPolar_34 : decode cX3_setPolar 34 = .ok (.aload_n 1, 1) := by decide +kernel
theorem dX3_setPolar_35 : decode cX3_setPolar 35 = .ok (.getfield 52, 3) := by decide +kernel
theorem dX3_setPolar_38 : decode cX3_setPolar 38 = .ok (.aload_n 2, 1) := by decide +kernel
theorem dX3_setPolar_39 : decode cX3_setPolar 39 = .ok (.getfield 7, 3) := by decide +kernel
theorem dX3_setPolar_42 : decode cX3_setPolar 42 = .ok (.lmul, 1) := by decide +kernel
theorem dX3_setPolar_43 : decode cX3_setPolar 43 = .ok (.ldc2_w 45, 3) := by decide +kernel
theorem dX3_setPolar_46 : decode cX3_setPolar 46 = .ok (.aload_n 1, 1) := by decide +kernel
theorem dX3_setPolar_47 : decode cX3_setPolar 47 = .ok (.getfield 58, 3) := by decide +kernel
theorem dX3_setPolar_50 : decode cX3_setPolar 50 = .ok (.lmul, 1) := by decide +kernel
theorem dX3_setPolar_51 : decode cX3_setPolar 51 = .ok (.aload_n 2, 1) := by decide +kernel
theorem dX3_setPolar_52 : decode cX3_setPolar 52 = .ok (.getfield 13, 3) := by decide +kernel
theorem dX3_setPolar_55 : decode cX3_setPolar 55 = .ok (.lmul, 1) := by decide +kernel
theorem dX3_setPolar_56 : decode cX3_setPolar 56 = .ok (.ladd, 1) := by decide +kernel
theorem dX3_setPolar_57 : decode cX3_setPolar 57 = .ok (.aload_n 1, 1) := by decide +kernel
theorem dX3_setPolar_58 : decode cX3_setPolar 58 = .ok (.getfield 61, 3) := by decide +kernel
theorem dX3_setPolar_61 : decode cX3_setPolar 61 = .ok (.aload_n 2, 1) := by decide +kernel
theorem dX3_setPolar_62 : decode cX3_setPolar 62 = .ok (.getfield 16, 3) := by decide +kernel
theorem dX3_setPolar_65 : decode cX3_setPolar 65 = .ok (.lmul, 1) := by decide +kernel
theorem dX3_setPolar_66 : decode cX3_setPolar 66 = .ok (.ladd, 1) := by decide +kernel
theorem dX3_setPolar_67 : decode cX3_setPolar 67 = .ok (.aload_n 1, 1) := by decide +kernel
theorem dX3_setPolar_68 : decode cX3_setPolar 68 = .ok (.getfield 55, 3) := by decide +kernel
theorem dX3_setPolar_71 : decode cX3_setPolar 71 = .ok (.aload_n 2, 1) := by decide +kernel
theorem dX3_setPolar_72 : decode cX3_setPolar 72 = .ok (.getfield 7, 3) := by decide +kernel
theorem dX3_setPolar_75 : decode cX3_setPolar 75 = .ok (.lmul, 1) := by decide +kernel
theorem dX3_setPolar_76 : decode cX3_setPolar 76 = .ok (.aload_n 1, 1) := by decide +kernel
theorem dX3_setPolar_77 : decode cX3_setPolar 77 = .ok (.getfield 61, 3) := by decide +kernel
theorem dX3_setPolar_80 : decode cX3_setPolar 80 = .ok (.aload_n 2, 1) := by decide +kernel
theorem dX3_setPolar_81 : decode cX3_setPolar 81 = .ok (.getfield 13, 3) := by decide +kernel
theorem dX3_setPolar_84 : decode cX3_setPolar 84 = .ok (.lmul, 1) := by decide +kernel
theorem dX3_setPolar_85 : decode cX3_setPolar 85 = .ok (.ladd, 1) := by decide +kernel
theorem dX3_setPolar_86 : decode cX3_setPolar 86 = .ok (.ldc2_w 45, 3) := by decide +kernel
theorem dX3_setPolar_89 : decode cX3_setPolar 89 = .ok (.aload_n 1, 1) := by decide +kernel
theorem dX3_setPolar_90 : decode cX3_setPolar 90 = .ok (.getfield 64, 3) := by decide +kernel
theorem dX3_setPolar_93 : decode cX3_setPolar 93 = .ok (.lmul, 1) := by decide +kernel
theorem dX3_setPolar_94 : decode cX3_setPolar 94 = .ok (.aload_n 2, 1) := by decide +kernel
theorem dX3_setPolar_95 : decode cX3_setPolar 95 = .ok (.getfield 16, 3) := by decide +kernel
theorem dX3_setPolar_98 : decode cX3_setPolar 98 = .ok (.lmul, 1) := by decide +kernel
theorem dX3_setPolar_99 : decode cX3_setPolar 99 = .ok (.ladd, 1) := by decide +kernel
theorem dX3_setPolar_100 : decode cX3_setPolar 100 = .ok (.invokevirtual 25, 3) := by decide +kernel
theorem dX3_setPolar_103 : decode cX3_setPolar 103 = .ok (.return_, 1) := by decide +kernel
set_option maxRecDepth 20000 in
theorem ggX3_setProduct_X3_set : GoodIn wsX3_setProduct wsX3_set := goodIn_r _ [8, 1, 2, 3, 15, 16, 17] (by decide +kernel) (by decide +kernel)
set_option maxRecDepth 20000 in
theorem gX3_setProduct_X3_set : GoodIn wsX3_setProduct (wsV RX3 25 RX3 yX3_set wsX3_set) := goodIn_app (goodIn_of _ (by decide +kernel)) ggX3_setProduct_X3_set
theorem dX3_setProduct_0 : decode cX3_setProduct 0 = .ok (.aload_n 0, 1) := by decide +kernel
theorem dX3_setProduct_1 : decode cX3_setProduct 1 = .ok (.aload_n 1, 1) := by decide +kernel
theorem dX3_setProduct_2 : decode cX3_setProduct 2 = .ok (.getfield 47, 3) := by decide +kernel
theorem dX3_setProduct_5 : decode cX3_setProduct 5 = .ok (.aload_n 2, 1) := by decide +kernel
theorem dX3_setProduct_6 : decode cX3_setProduct 6 = .ok (.getfield 7, 3) := by decide +kernel
theorem dX3_setProduct_9 : decode cX3_setProduct 9 = .ok (.lmul, 1) := by decide +kernel
theorem dX3_setProduct_10 : decode cX3_setProduct 10 = .ok (.aload_n 1, 1) := by decide +kernel
theorem dX3_setProduct_11 : decode cX3_setProduct 11 = .ok (.getfield 52, 3) := by decide +kernel
theorem dX3_setProduct_14 : decode cX3_setProduct 14 = .ok (.aload_n 2, 1) := by decide +kernel
theorem dX3_setProduct_15 : decode cX3_setProduct 15 = .ok (.getfield 13, 3) := by decide +kernel
theorem dX3_setProduct_18 : decode cX3_setProduct 18 = .ok (.lmul, 1) := by decide +kernel
theorem dX3_setProduct_19 : decode cX3_setProduct 19 = .ok (.ladd, 1) := by decide +kernel
theorem dX3_setProduct_20 : decode cX3_setProduct 20 = .ok (.aload_n 1, 1) := by decide +kernel
theorem dX3_setProduct_21 : decode cX3_setProduct 21 = .ok (.getfield 55, 3) := by decide +kernel
theorem dX3_setProduct_24 : decode cX3_setProduct 24 = .ok (.aload_n 2, 1) := by decide +kernel
theorem dX3_setProduct_25 : decode cX3_setProduct 25 = .ok (.getfield 16, 3) := by decide +kernel
theorem dX3_setProduct_28 : decode cX3_setProduct 28 = .ok (.lmul, 1) := by decide +kernel
theorem dX3_setProduct_29 : decode cX3_setProduct 29 = .ok (.ladd, 1) := by decide +kernel
theorem dX3_setProduct_30 : decode cX3_setProduct 30 = .ok (.aload_n 1, 1) := by decide +kernel
theorem dX3_setProduct_31 : decode cX3_setProduct 31 = .ok (.getfield 52, 3) := by decide +kernel
theorem dX3_setProduct_34 : decode cX3_setProduct 34 = .ok (.aload_n 2, 1) := by decide +kernel
theorem dX3_setProduct_35 : decode cX3_setProduct 35 = .ok (.getfield 7, 3) := by decide +kernel
theorem dX3_setProduct_38 : decode cX3_setProduct 38 = .ok (.lmul, 1) := by decide +kernel
theorem dX3_setProduct_39 : decode cX3_setProduct 39 = .ok (.aload_n 1, 1) := by decide +kernel
theorem dX3_setProduct_40 : decode cX3_setProduct 40 = .ok (.getfield 58, 3) := by decide +kernel
theorem dX3_setProduct_43 : decode cX3_setProduct 43 = .ok (.aload_n 2, 1) := by decide +kernel
theorem dX3_setProduct_44 : decode cX3_setProduct 44 = .ok (.getfield 13, 3) := by decide +kernel
theorem dX3_setProduct_47 : decode cX3_setProduct 47 = .ok (.lmul, 1) := by decide +kernel
theorem dX3_setProduct_48 : decode cX3_setProduct 48 = .ok (.ladd, 1) := by decide +kernel
theorem dX3_setProduct_49 : decode cX3_setProduct 49 = .ok (.aload_n 1, 1) := by decide +kernel
theorem dX3_setProduct_50 : decode cX3_setProduct 50 = .ok (.getfield 61, 3) := by decide +kernel
theorem dX3_setProduct_53 : decode cX3_setProduct 53 = .ok (.aload_n 2, 1) := by decide +kernel
theorem dX3_setProduct_54 : decode cX3_setProduct 54 = .ok (.getfield 16, 3) := by decide +kernel
theorem dX3_setProduct_57 : decode cX3_setProduct 57 = .ok (.lmul, 1) := by decide +kernel
theorem dX3_setProduct_58 : decode cX3_setProduct 58 = .ok (.ladd, 1) := by decide +kernel
theorem dX3_setProduct_59 : decode cX3_setProduct 59 = .ok (.aload_n 1, 1) := by decide +kernel
theorem dX3_setProduct_60 : decode cX3_setProduct 60 = .ok (.getfield 55, 3) := by decide +kernel
theorem dX3_setProduct_63 : decode cX3_setProduct 63 = .ok (.aload_n 2, 1) := by decide +kernel
theorem dX3_setProduct_64 : decode cX3_setProduct 64 = .ok (.getfield 7, 3) := by decide +kernel
theorem dX3_setProduct_67 : decode cX3_setProduct 67 = .ok (.lmul, 1) := by decide +kernel
theorem dX3_setProduct_68 : decode cX3_setProduct 68 = .ok (.aload_n 1, 1) := by decide +kernel
theorem dX3_setProduct_69 : decode cX3_setProduct 69 = .ok (.getfield 61, 3) := by decide +kernel
theorem dX3_setProduct_72 : decode cX3_setProduct 72 = .ok (.aload_n 2, 1) := by decide +kernel
theorem dX3_setProduct_73 : decode cX3_setProduct 73 = .ok (.getfield 13, 3) := by decide +kernel
theorem dX3_setProduct_76 : decode cX3_setProduct 76 = .ok (.lmul, 1) := by decide +kernel
theorem dX3_setProduct_77 : decode cX3_setProduct 77 = .ok (.ladd, 1) := by decide +kernel
theorem dX3_setProduct_78 : decode cX3_setProduct 78 = .ok (.aload_n 1, 1) := by decide +kernel
theorem dX3_setProduct_79 : decode cX3_setProduct 79 = .ok (.getfield 64, 3) := by decide +kernel
theorem dX3_setProduct_82 : decode cX3_setProduct 82 = .ok (.aload_n 2, 1) := by decide +kernel
theorem dX3_setProduct_83 : decode cX3_setProduct 83 = .ok (.getfield 16, 3) := by decide +kernel
theorem dX3_setProduct_86 : decode cX3_setProduct 86 = .ok (.lmul, 1) := by decide +kernel
theorem dX3_setProduct_87 : decode cX3_setProduct 87 = .ok (.ladd, 1) := by decide +kernel
theorem dX3_setProduct_88 : decode cX3_setProduct 88 = .ok (.invokevirtual 25, 3) := by decide +kernel
theorem dX3_setProduct_91 : decode cX3_setProduct 91 = .ok (.return_, 1) := by decide +kernel
set_option maxRecDepth 20000 in
theorem ggX3_setTurn_X3_set : GoodIn wsX3_setTurn wsX3_set := goodIn_r _ [5, 6, 7, 8, 15, 16, 17] (by decide +kernel) (by decide +kernel)
set_option maxRecDepth 20000 in
theorem gX3_setTurn_X3_set : GoodIn wsX3_setTurn (wsV RX3 25 RX3 yX3_set wsX3_set) := goodIn_app (goodIn_of _ (by decide +kernel)) ggX3_setTurn_X3_set
theorem dX3_setTurn_0 : decode cX3_setTurn 0 = .ok (.lload_n 2, 1) := by decide +kernel
theorem dX3_setTurn_1 : decode cX3_setTurn 1 = .ok (.lconst 0, 1) := by decide +kernel
theorem dX3_setTurn_2 : decode cX3_setTurn 2 = .ok (.lcmp, 1) := by decide +kernel
theorem dX3_setTurn_3 : decode cX3_setTurn 3 = .ok (.ifCond .ne 13, 3) := by decide +kernel
theorem dX3_setTurn_6 : decode cX3_setTurn 6 = .ok (.aload_n 0, 1) := by decide +kernel
theorem dX3_setTurn_7 : decode cX3_setTurn 7 = .ok (.lconst 0, 1) := by decide +kernel
theorem dX3_setTurn_8 : decode cX3_setTurn 8 = .ok (.lconst 0, 1) := by decide +kernel
theorem dX3_setTurn_9 : decode cX3_setTurn 9 = .ok (.lconst 0, 1) := by decide +kernel
theorem dX3_setTurn_10 : decode cX3_setTurn 10 = .ok (.invokevirtual 25, 3) := by decide +kernel
theorem dX3_setTurn_13 : decode cX3_setTurn 13 = .ok (.goto 102, 3) := by decide +kernel
theorem dX3_setTurn_16 : decode cX3_setTurn 16 = .ok (.aload_n 1, 1) := by decide +kernel
theorem dX3_setTurn_17 : decode cX3_setTurn 17 = .ok (.getfield 47, 3) := by decide +kernel
theorem dX3_setTurn_20 : decode cX3_setTurn 20 = .ok (.lconst 0, 1) := by decide +kernel
theorem dX3_setTurn_21 : decode cX3_setTurn 21 = .ok (.lcmp, 1) := by decide +kernel
theorem dX3_setTurn_22 : decode cX3_setTurn 22 = .ok (.ifCond .eq 31, 3) := by decide +kernel
theorem dX3_setTurn_25 : decode cX3_setTurn 25 = .ok (.aload_n 0, 1) := by decide +kernel
theorem dX3_setTurn_26 : decode cX3_setTurn 26 = .ok (.aload_n 1, 1) := by decide +kernel
theorem dX3_setTurn_27 : decode cX3_setTurn 27 = .ok (.getfield 47, 3) := by decide +kernel
theorem dX3_setTurn_30 : decode cX3_setTurn 30 = .ok (.lneg, 1) := by decide +kernel
theorem dX3_setTurn_31 : decode cX3_setTurn 31 = .ok (.lload_n 2, 1) := by decide +kernel
theorem dX3_setTurn_32 : decode cX3_setTurn 32 = .ok (.ldiv, 1) := by decide +kernel
theorem dX3_setTurn_33 : decode cX3_setTurn 33 = .ok (.aload_n 1, 1) := by decide +kernel
theorem dX3_setTurn_34 : decode cX3_setTurn 34 = .ok (.getfield 52, 3) := by decide +kernel
theorem dX3_setTurn_37 : decode cX3_setTurn 37 = .ok (.lneg, 1) := by decide +kernel
theorem dX3_setTurn_38 : decode cX3_setTurn 38 = .ok (.lload_n 2, 1) := by decide +kernel
theorem dX3_setTurn_39 : decode cX3_setTurn 39 = .ok (.ldiv, 1) := by decide +kernel
theorem dX3_setTurn_40 : decode cX3_setTurn 40 = .ok (.aload_n 1, 1) := by decide +kernel
theorem dX3_setTurn_41 : decode cX3_setTurn 41 = .ok (.getfield 55, 3) := by decide +kernel
theorem dX3_setTurn_44 : decode cX3_setTurn 44 = .ok (.lneg, 1) := by decide +kernel
theorem dX3_setTurn_45 : decode cX3_setTurn 45 = .ok (.lload_n 2, 1) := by decide +kernel
theorem dX3_setTurn_46 : decode cX3_setTurn 46 = .ok (.ldiv, 1) := by decide +kernel
theorem dX3_setTurn_47 : decode cX3_setTurn 47 = .ok (.invokevirtual 25, 3) := by decide +kernel
theorem dX3_setTurn_50 : decode cX3_setTurn 50 = .ok (.goto 65, 3) := by decide +kernel
theorem dX3_setTurn_53 : decode cX3_setTurn 53 = .ok (.aload_n 1, 1) := by decide +kernel
theorem dX3_setTurn_54 : decode cX3_setTurn 54 = .ok (.getfield 58, 3) := by decide +kernel
theorem dX3_setTurn_57 : decode cX3_setTurn 57 = .ok (.lconst 0, 1) := by decide +kernel
theorem dX3_setTurn_58 : decode cX3_setTurn 58 = .ok (.lcmp, 1) := by decide +kernel
theorem dX3_setTurn_59 : decode cX3_setTurn 59 = .ok (.ifCond .eq 31, 3) := by decide +kernel
theorem dX3_setTurn_62 : decode cX3_setTurn 62 = .ok (.aload_n 0, 1) := by decide +kernel
theorem dX3_setTurn_63 : decode cX3_setTurn 63 = .ok (.aload_n 1, 1) := by decide +kernel
theorem dX3_setTurn_64 : decode cX3_setTurn 64 = .ok (.getfield 52, 3) := by decide +kernel
theorem dX3_setTurn_67 : decode cX3_setTurn 67 = .ok (.lneg, 1) := by decide +kernel
theorem dX3_setTurn_68 : decode cX3_setTurn 68 = .ok (.lload_n 2, 1) := by decide +kernel
theorem dX3_setTurn_69 : decode cX3_setTurn 69 = .ok (.ldiv, 1) := by decide +kernel
theorem dX3_setTurn_70 : decode cX3_setTurn 70 = .ok (.aload_n 1, 1) := by decide +kernel
theorem dX3_setTurn_71 : decode cX3_setTurn 71 = .ok (.getfield 58, 3) := by decide +kernel
theorem dX3_setTurn_74 : decode cX3_setTurn 74 = .ok (.lneg, 1) := by decide +kernel
theorem dX3_setTurn_75 : decode cX3_setTurn 75 = .ok (.lload_n 2, 1) := by decide +kernel
theorem dX3_setTurn_76 : decode cX3_setTurn 76 = .ok (.ldiv, 1) := by decide +kernel
theorem dX3_setTurn_77 : decode cX3_setTurn 77 = .ok (.aload_n 1, 1) := by decide +kernel
theorem dX3_setTurn_78 : decode cX3_setTurn 78 = .ok (.getfield 61, 3) := by decide +kernel
theorem dX3_setTurn_81 : decode cX3_setTurn 81 = .ok (.lneg, 1) := by decide +kernel
theorem dX3_setTurn_82 : decode cX3_setTurn 82 = .ok (.lload_n 2, 1) := by decide +kernel
theorem dX3_setTurn_83 : decode cX3_setTurn 83 = .ok (.ldiv, 1) := by decide +kernel
theorem dX3_setTurn_84 : decode cX3_setTurn 84 = .ok (.invokevirtual 25, 3) := by decide +kernel
theorem dX3_setTurn_87 : decode cX3_setTurn 87 = .ok (.goto 28, 3) := by decide +kernel
theorem dX3_setTurn_90 : decode cX3_setTurn 90 = .ok (.aload_n 0, 1) := by decide +kernel
theorem dX3_setTurn_91 : decode cX3_setTurn 91 = .ok (.aload_n 1, 1) := by decide +kernel
theorem dX3_setTurn_92 : decode cX3_setTurn 92 = .ok (.getfield 55, 3) := by decide +kernel
theorem dX3_setTurn_95 : decode cX3_setTurn 95 = .ok (.lneg, 1) := by decide +kernel
theorem dX3_setTurn_96 : decode cX3_setTurn 96 = .ok (.lload_n 2, 1) := by decide +kernel
theorem dX3_setTurn_97 : decode cX3_setTurn 97 = .ok (.ldiv, 1) := by decide +kernel
theorem dX3_setTurn_98 : decode cX3_setTurn 98 = .ok (.aload_n 1, 1) := by decide +kernel
theorem dX3_setTurn_99 : decode cX3_setTurn 99 = .ok (.getfield 61, 3) := by decide +kernel
theorem dX3_setTurn_102 : decode cX3_setTurn 102 = .ok (.lneg, 1) := by decide +kernel
theorem dX3_setTurn_103 : decode cX3_setTurn 103 = .ok (.lload_n 2, 1) := by decide +kernel
theorem dX3_setTurn_104 : decode cX3_setTurn 104 = .ok (.ldiv, 1) := by decide +kernel
theorem dX3_setTurn_105 : decode cX3_setTurn 105 = .ok (.aload_n 1, 1) := by decide +kernel
theorem dX3_setTurn_106 : decode cX3_setTurn 106 = .ok (.getfield 64, 3) := by decide +kernel
theorem dX3_setTurn_109 : decode cX3_setTurn 109 = .ok (.lneg, 1) := by decide +kernel
theorem dX3_setTurn_110 : decode cX3_setTurn 110 = .ok (.lload_n 2, 1) := by decide +kernel
theorem dX3_setTurn_111 : decode cX3_setTurn 111 = .ok (.ldiv, 1) := by decide +kernel
theorem dX3_setTurn_112 : decode cX3_setTurn 112 = .ok (.invokevirtual 25, 3) := by decide +kernel
theorem dX3_setTurn_115 : decode cX3_setTurn 115 = .ok (.return_, 1) := by decide +kernel
set_option maxRecDepth 20000 in
theorem ggX3_setRow_X3_set : GoodIn wsX3_setRow wsX3_set := goodIn_r _ [9, 4, 3, 2, 31, 32, 33] (by decide +kernel) (by decide +kernel)
set_option maxRecDepth 20000 in
theorem gX3_setRow_X3_set : GoodIn wsX3_setRow (wsV RX3 25 RX3 yX3_set wsX3_set) := goodIn_app (goodIn_of _ (by decide +kernel)) ggX3_setRow_X3_set
set_option maxRecDepth 20000 in
theorem ggX3_setRow_X3_isZero : GoodIn wsX3_setRow wsX3_isZero := goodIn_r _ [13, 4, 3, 2, 31, 32, 33] (by decide +kernel) (by decide +kernel)
set_option maxRecDepth 20000 in
theorem gX3_setRow_X3_isZero : GoodIn wsX3_setRow (wsV RX3 67 RX3 yX3_isZero wsX3_isZero) := goodIn_app (goodIn_of _ (by decide +kernel)) ggX3_setRow_X3_isZero
set_option maxRecDepth 20000 in
theorem ggX3_setRow_X3_reduce : GoodIn wsX3_setRow wsX3_reduce := goodIn_r _ [17, 4, 18, 19, 20, 21, 3, 2, 22, 23, 24, 5, 6, 7, 8, 9, 31, 32, 33] (by decide +kernel) (by decide +kernel)
set_option maxRecDepth 20000 in
theorem gX3_setRow_X3_reduce : GoodIn wsX3_setRow (wsV RX3 71 RX3 yX3_reduce wsX3_reduce) := goodIn_app (goodIn_of _ (by decide +kernel)) ggX3_setRow_X3_reduce
theorem dX3_setRow_0 : decode cX3_setRow 0 = .ok (.aload_n 0, 1) := by decide +kernel
theorem dX3_setRow_1 : decode cX3_setRow 1 = .ok (.ldc2_w 45, 3) := by decide +kernel
theorem dX3_setRow_4 : decode cX3_setRow 4 = .ok (.aload_n 1, 1) := by decide +kernel
theorem dX3_setRow_5 : decode cX3_setRow 5 = .ok (.getfield 47, 3) := by decide +kernel
theorem dX3_setRow_8 : decode cX3_setRow 8 = .ok (.lmul, 1) := by decide +kernel
theorem dX3_setRow_9 : decode cX3_setRow 9 = .ok (.aload_n 1, 1) := by decide +kernel
theorem dX3_setRow_10 : decode cX3_setRow 10 = .ok (.getfield 52, 3) := by decide +kernel
theorem dX3_setRow_13 : decode cX3_setRow 13 = .ok (.aload_n 2, 1) := by decide +kernel
theorem dX3_setRow_14 : decode cX3_setRow 14 = .ok (.getfield 16, 3) := by decide +kernel
theorem dX3_setRow_17 : decode cX3_setRow 17 = .ok (.lsub, 1) := by decide +kernel
theorem dX3_setRow_18 : decode cX3_setRow 18 = .ok (.aload_n 1, 1) := by decide +kernel
theorem dX3_setRow_19 : decode cX3_setRow 19 = .ok (.getfield 55, 3) := by decide +kernel
theorem dX3_setRow_22 : decode cX3_setRow 22 = .ok (.aload_n 2, 1) := by decide +kernel
theorem dX3_setRow_23 : decode cX3_setRow 23 = .ok (.getfield 13, 3) := by decide +kernel
theorem dX3_setRow_26 : decode cX3_setRow 26 = .ok (.ladd, 1) := by decide +kernel
theorem dX3_setRow_27 : decode cX3_setRow 27 = .ok (.invokevirtual 25, 3) := by decide +kernel
theorem dX3_setRow_30 : decode cX3_setRow 30 = .ok (.aload_n 0, 1) := by decide +kernel
theorem dX3_setRow_31 : decode cX3_setRow 31 = .ok (.invokevirtual 67, 3) := by decide +kernel
theorem dX3_setRow_34 : decode cX3_setRow 34 = .ok (.ifCond .eq 33, 3) := by decide +kernel
theorem dX3_setRow_37 : decode cX3_setRow 37 = .ok (.aload_n 0, 1) := by decide +kernel
theorem dX3_setRow_38 : decode cX3_setRow 38 = .ok (.aload_n 1, 1) := by decide +kernel
theorem dX3_setRow_39 : decode cX3_setRow 39 = .ok (.getfield 52, 3) := by decide +kernel
theorem dX3_setRow_42 : decode cX3_setRow 42 = .ok (.aload_n 2, 1) := by decide +kernel
theorem dX3_setRow_43 : decode cX3_setRow 43 = .ok (.getfield 16, 3) := by decide +kernel
theorem dX3_setRow_46 : decode cX3_setRow 46 = .ok (.ladd, 1) := by decide +kernel
theorem dX3_setRow_47 : decode cX3_setRow 47 = .ok (.ldc2_w 45, 3) := by decide +kernel
theorem dX3_setRow_50 : decode cX3_setRow 50 = .ok (.aload_n 1, 1) := by decide +kernel
theorem dX3_setRow_51 : decode cX3_setRow 51 = .ok (.getfield 58, 3) := by decide +kernel
theorem dX3_setRow_54 : decode cX3_setRow 54 = .ok (.lmul, 1) := by decide +kernel
theorem dX3_setRow_55 : decode cX3_setRow 55 = .ok (.aload_n 1, 1) := by decide +kernel
theorem dX3_setRow_56 : decode cX3_setRow 56 = .ok (.getfield 61, 3) := by decide +kernel
theorem dX3_setRow_59 : decode cX3_setRow 59 = .ok (.aload_n 2, 1) := by decide +kernel
theorem dX3_setRow_60 : decode cX3_setRow 60 = .ok (.getfield 7, 3) := by decide +kernel
theorem dX3_setRow_63 : decode cX3_setRow 63 = .ok (.lsub, 1) := by decide +kernel
theorem dX3_setRow_64 : decode cX3_setRow 64 = .ok (.invokevirtual 25, 3) := by decide +kernel
theorem dX3_setRow_67 : decode cX3_setRow 67 = .ok (.aload_n 0, 1) := by decide +kernel
theorem dX3_setRow_68 : decode cX3_setRow 68 = .ok (.invokevirtual 67, 3) := by decide +kernel
theorem dX3_setRow_71 : decode cX3_setRow 71 = .ok (.ifCond .eq 33, 3) := by decide +kernel
theorem dX3_setRow_74 : decode cX3_setRow 74 = .ok (.aload_n 0, 1) := by decide +kernel
theorem dX3_setRow_75 : decode cX3_setRow 75 = .ok (.aload_n 1, 1) := by decide +kernel
theorem dX3_setRow_76 : decode cX3_setRow 76 = .ok (.getfield 55, 3) := by decide +kernel
theorem dX3_setRow_79 : decode cX3_setRow 79 = .ok (.aload_n 2, 1) := by decide +kernel
theorem dX3_setRow_80 : decode cX3_setRow 80 = .ok (.getfield 13, 3) := by decide +kernel
theorem dX3_setRow_83 : decode cX3_setRow 83 = .ok (.lsub, 1) := by decide +kernel
theorem dX3_setRow_84 : decode cX3_setRow 84 = .ok (.aload_n 1, 1) := by decide +kernel
theorem dX3_setRow_85 : decode cX3_setRow 85 = .ok (.getfield 61, 3) := by decide +kernel
theorem dX3_setRow_88 : decode cX3_setRow 88 = .ok (.aload_n 2, 1) := by decide +kernel
theorem dX3_setRow_89 : decode cX3_setRow 89 = .ok (.getfield 7, 3) := by decide +kernel
theorem dX3_setRow_92 : decode cX3_setRow 92 = .ok (.ladd, 1) := by decide +kernel
theorem dX3_setRow_93 : decode cX3_setRow 93 = .ok (.ldc2_w 45, 3) := by decide +kernel
theorem dX3_setRow_96 : decode cX3_setRow 96 = .ok (.aload_n 1, 1) := by decide +kernel
theorem dX3_setRow_97 : decode cX3_setRow 97 = .ok (.getfield 64, 3) := by decide +kernel
theorem dX3_setRow_100 : decode cX3_setRow 100 = .ok (.lmul, 1) := by decide +kernel
theorem dX3_setRow_101 : decode cX3_setRow 101 = .ok (.invokevirtual 25, 3) := by decide +kernel
theorem dX3_setRow_104 : decode cX3_setRow 104 = .ok (.aload_n 0, 1) := by decide +kernel
theorem dX3_setRow_105 : decode cX3_setRow 105 = .ok (.invokevirtual 71, 3) := by decide +kernel
theorem dX3_setRow_108 : decode cX3_setRow 108 = .ok (.return_, 1) := by decide +kernel
