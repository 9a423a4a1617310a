theorem dX0_init_0 : decode cX0_init 0 = .ok (.aload_n 0, 1) := by decide +kernel
theorem dX0_init_1 : decode cX0_init 1 = .ok (.invokespecial 1, 3) := by decide +kernel
theorem dX0_init_4 : decode cX0_init 4 = .ok (.return_, 1) := by decide +kernel
theorem dX0_setQuadratic_0 : decode cX0_setQuadratic 0 = .ok (.aload_n 0, 1) := by decide +kernel
theorem dX0_setQuadratic_1 : decode cX0_setQuadratic 1 = .ok (.lload_n 1, 1) := by decide +kernel
theorem dX0_setQuadratic_2 : decode cX0_setQuadratic 2 = .ok (.putfield 7, 3) := by decide +kernel
theorem dX0_setQuadratic_5 : decode cX0_setQuadratic 5 = .ok (.aload_n 0, 1) := by decide +kernel
theorem dX0_setQuadratic_6 : decode cX0_setQuadratic 6 = .ok (.lload_n 3, 1) := by decide +kernel
theorem dX0_setQuadratic_7 : decode cX0_setQuadratic 7 = .ok (.putfield 13, 3) := by decide +kernel
theorem dX0_setQuadratic_10 : decode cX0_setQuadratic 10 = .ok (.aload_n 0, 1) := by decide +kernel
theorem dX0_setQuadratic_11 : decode cX0_setQuadratic 11 = .ok (.lload 5, 2) := by decide +kernel
theorem dX0_setQuadratic_13 : decode cX0_setQuadratic 13 = .ok (.putfield 16, 3) := by decide +kernel
theorem dX0_setQuadratic_16 : decode cX0_setQuadratic 16 = .ok (.return_, 1) := by decide +kernel
theorem dX0_setRest_0 : decode cX0_setRest 0 = .ok (.aload_n 0, 1) := by decide +kernel
theorem dX0_setRest_1 : decode cX0_setRest 1 = .ok (.lload_n 1, 1) := by decide +kernel
theorem dX0_setRest_2 : decode cX0_setRest 2 = .ok (.putfield 19, 3) := by decide +kernel
theorem dX0_setRest_5 : decode cX0_setRest 5 = .ok (.aload_n 0, 1) := by decide +kernel
theorem dX0_setRest_6 : decode cX0_setRest 6 = .ok (.lload_n 3, 1) := by decide +kernel
theorem dX0_setRest_7 : decode cX0_setRest 7 = .ok (.putfield 22, 3) := by decide +kernel
theorem dX0_setRest_10 : decode cX0_setRest 10 = .ok (.aload_n 0, 1) := by decide +kernel
theorem dX0_setRest_11 : decode cX0_setRest 11 = .ok (.lload 5, 2) := by decide +kernel
theorem dX0_setRest_13 : decode cX0_setRest 13 = .ok (.putfield 25, 3) := by decide +kernel
theorem dX0_setRest_16 : decode cX0_setRest 16 = .ok (.return_, 1) := by decide +kernel
set_option maxRecDepth 20000 in
theorem ggX0_read_X2_get : GoodIn wsX0_read wsX2_get := goodIn_r _ [5, 6, 7, 8, 9, 10, 4, 11, 12, 28, 29, 30] (by decide +kernel) (by decide +kernel)
set_option maxRecDepth 20000 in
theorem gX0_read_X2_get : GoodIn wsX0_read (wsV RX0 28 RX2 yX2_get wsX2_get) := goodIn_app (goodIn_of _ (by decide +kernel)) ggX0_read_X2_get
set_option maxRecDepth 20000 in
theorem ggX0_read_X0_setQuadratic : GoodIn wsX0_read wsX0_setQuadratic := goodIn_r _ [17, 18, 19, 20, 31, 32, 33, 34, 35, 36] (by decide +kernel) (by decide +kernel)
set_option maxRecDepth 20000 in
theorem gX0_read_X0_setQuadratic : GoodIn wsX0_read (wsV RX0 34 RX0 yX0_setQuadratic wsX0_setQuadratic) := goodIn_app (goodIn_of _ (by decide +kernel)) ggX0_read_X0_setQuadratic
set_option maxRecDepth 20000 in
theorem ggX0_read_X0_setRest : GoodIn wsX0_read wsX0_setRest := goodIn_r _ [24, 25, 26, 27, 31, 32, 33, 34, 35, 36] (by decide +kernel) (by decide +kernel)
set_option maxRecDepth 20000 in
theorem gX0_read_X0_setRest : GoodIn wsX0_read (wsV RX0 38 RX0 yX0_setRest wsX0_setRest) := goodIn_app (goodIn_of _ (by decide +kernel)) ggX0_read_X0_setRest
theorem dX0_read_0 : decode cX0_read 0 = .ok (.aload_n 0, 1) := by decide +kernel
theorem dX0_read_1 : decode cX0_read 1 = .ok (.aload_n 1, 1) := by decide +kernel
theorem dX0_read_2 : decode cX0_read 2 = .ok (.iload_n 2, 1) := by decide +kernel
theorem dX0_read_3 : decode cX0_read 3 = .ok (.iconst 0, 1) := by decide +kernel
theorem dX0_read_4 : decode cX0_read 4 = .ok (.invokevirtual 28, 3) := by decide +kernel
theorem dX0_read_7 : decode cX0_read 7 = .ok (.i2l, 1) := by decide +kernel
theorem dX0_read_8 : decode cX0_read 8 = .ok (.aload_n 1, 1) := by decide +kernel
theorem dX0_read_9 : decode cX0_read 9 = .ok (.iload_n 2, 1) := by decide +kernel
theorem dX0_read_10 : decode cX0_read 10 = .ok (.iconst 1, 1) := by decide +kernel
theorem dX0_read_11 : decode cX0_read 11 = .ok (.invokevirtual 28, 3) := by decide +kernel
theorem dX0_read_14 : decode cX0_read 14 = .ok (.i2l, 1) := by decide +kernel
theorem dX0_read_15 : decode cX0_read 15 = .ok (.aload_n 1, 1) := by decide +kernel
theorem dX0_read_16 : decode cX0_read 16 = .ok (.iload_n 2, 1) := by decide +kernel
theorem dX0_read_17 : decode cX0_read 17 = .ok (.iconst 2, 1) := by decide +kernel
theorem dX0_read_18 : decode cX0_read 18 = .ok (.invokevirtual 28, 3) := by decide +kernel
theorem dX0_read_21 : decode cX0_read 21 = .ok (.i2l, 1) := by decide +kernel
theorem dX0_read_22 : decode cX0_read 22 = .ok (.invokevirtual 34, 3) := by decide +kernel
theorem dX0_read_25 : decode cX0_read 25 = .ok (.aload_n 0, 1) := by decide +kernel
theorem dX0_read_26 : decode cX0_read 26 = .ok (.aload_n 1, 1) := by decide +kernel
theorem dX0_read_27 : decode cX0_read 27 = .ok (.iload_n 2, 1) := by decide +kernel
theorem dX0_read_28 : decode cX0_read 28 = .ok (.iconst 3, 1) := by decide +kernel
theorem dX0_read_29 : decode cX0_read 29 = .ok (.invokevirtual 28, 3) := by decide +kernel
theorem dX0_read_32 : decode cX0_read 32 = .ok (.i2l, 1) := by decide +kernel
theorem dX0_read_33 : decode cX0_read 33 = .ok (.aload_n 1, 1) := by decide +kernel
theorem dX0_read_34 : decode cX0_read 34 = .ok (.iload_n 2, 1) := by decide +kernel
theorem dX0_read_35 : decode cX0_read 35 = .ok (.iconst 4, 1) := by decide +kernel
theorem dX0_read_36 : decode cX0_read 36 = .ok (.invokevirtual 28, 3) := by decide +kernel
theorem dX0_read_39 : decode cX0_read 39 = .ok (.i2l, 1) := by decide +kernel
theorem dX0_read_40 : decode cX0_read 40 = .ok (.aload_n 1, 1) := by decide +kernel
theorem dX0_read_41 : decode cX0_read 41 = .ok (.iload_n 2, 1) := by decide +kernel
theorem dX0_read_42 : decode cX0_read 42 = .ok (.iconst 5, 1) := by decide +kernel
theorem dX0_read_43 : decode cX0_read 43 = .ok (.invokevirtual 28, 3) := by decide +kernel
theorem dX0_read_46 : decode cX0_read 46 = .ok (.i2l, 1) := by decide +kernel
theorem dX0_read_47 : decode cX0_read 47 = .ok (.invokevirtual 38, 3) := by decide +kernel
theorem dX0_read_50 : decode cX0_read 50 = .ok (.return_, 1) := by decide +kernel
theorem dX0_isZero_0 : decode cX0_isZero 0 = .ok (.aload_n 0, 1) := by decide +kernel
theorem dX0_isZero_1 : decode cX0_isZero 1 = .ok (.getfield 7, 3) := by decide +kernel
theorem dX0_isZero_4 : decode cX0_isZero 4 = .ok (.lconst 0, 1) := by decide +kernel
theorem dX0_isZero_5 : decode cX0_isZero 5 = .ok (.lcmp, 1) := by decide +kernel
theorem dX0_isZero_6 : decode cX0_isZero 6 = .ok (.ifCond .ne 52, 3) := by decide +kernel
theorem dX0_isZero_9 : decode cX0_isZero 9 = .ok (.aload_n 0, 1) := by decide +kernel
theorem dX0_isZero_10 : decode cX0_isZero 10 = .ok (.getfield 13, 3) := by decide +kernel
theorem dX0_isZero_13 : decode cX0_isZero 13 = .ok (.lconst 0, 1) := by decide +kernel
theorem dX0_isZero_14 : decode cX0_isZero 14 = .ok (.lcmp, 1) := by decide +kernel
theorem dX0_isZero_15 : decode cX0_isZero 15 = .ok (.ifCond .ne 43, 3) := by decide +kernel
theorem dX0_isZero_18 : decode cX0_isZero 18 = .ok (.aload_n 0, 1) := by decide +kernel
theorem dX0_isZero_19 : decode cX0_isZero 19 = .ok (.getfield 16, 3) := by decide +kernel
theorem dX0_isZero_22 : decode cX0_isZero 22 = .ok (.lconst 0, 1) := by decide +kernel
theorem dX0_isZero_23 : decode cX0_isZero 23 = .ok (.lcmp, 1) := by decide +kernel
theorem dX0_isZero_24 : decode cX0_isZero 24 = .ok (.ifCond .ne 34, 3) := by decide +kernel
theorem dX0_isZero_27 : decode cX0_isZero 27 = .ok (.aload_n 0, 1) := by decide +kernel
theorem dX0_isZero_28 : decode cX0_isZero 28 = .ok (.getfield 19, 3) := by decide +kernel
theorem dX0_isZero_31 : decode cX0_isZero 31 = .ok (.lconst 0, 1) := by decide +kernel
theorem dX0_isZero_32 : decode cX0_isZero 32 = .ok (.lcmp, 1) := by decide +kernel
theorem dX0_isZero_33 : decode cX0_isZero 33 = .ok (.ifCond .ne 25, 3) := by decide +kernel
theorem dX0_isZero_36 : decode cX0_isZero 36 = .ok (.aload_n 0, 1) := by decide +kernel
theorem dX0_isZero_37 : decode cX0_isZero 37 = .ok (.getfield 22, 3) := by decide +kernel
theorem dX0_isZero_40 : decode cX0_isZero 40 = .ok (.lconst 0, 1) := by decide +kernel
theorem dX0_isZero_41 : decode cX0_isZero 41 = .ok (.lcmp, 1) := by decide +kernel
theorem dX0_isZero_42 : decode cX0_isZero 42 = .ok (.ifCond .ne 16, 3) := by decide +kernel
theorem dX0_isZero_45 : decode cX0_isZero 45 = .ok (.aload_n 0, 1) := by decide +kernel
theorem dX0_isZero_46 : decode cX0_isZero 46 = .ok (.getfield 25, 3) := by decide +kernel
theorem dX0_isZero_49 : decode cX0_isZero 49 = .ok (.lconst 0, 1) := by decide +kernel
theorem dX0_isZero_50 : decode cX0_isZero 50 = .ok (.lcmp, 1) := by decide +kernel
theorem dX0_isZero_51 : decode cX0_isZero 51 = .ok (.ifCond .ne 7, 3) := by decide +kernel
theorem dX0_isZero_54 : decode cX0_isZero 54 = .ok (.iconst 1, 1) := by decide +kernel
theorem dX0_isZero_55 : decode cX0_isZero 55 = .ok (.goto 4, 3) := by decide +kernel
theorem dX0_isZero_58 : decode cX0_isZero 58 = .ok (.iconst 0, 1) := by decide +kernel
theorem dX0_isZero_59 : decode cX0_isZero 59 = .ok (.ireturn, 1) := by decide +kernel
set_option maxRecDepth 20000 in
theorem ggX0_isWithin_X4_isWithin : GoodIn wsX0_isWithin wsX4_isWithin := goodIn_r _ [9] (by decide +kernel) (by decide +kernel)
set_option maxRecDepth 20000 in
theorem gX0_isWithin_X4_isWithin_n41 : GoodIn wsX0_isWithin (wsX4_isWithin) := ggX0_isWithin_X4_isWithin
theorem dX0_isWithin_0 : decode cX0_isWithin 0 = .ok (.aload_n 0, 1) := by decide +kernel
theorem dX0_isWithin_1 : decode cX0_isWithin 1 = .ok (.getfield 7, 3) := by decide +kernel
theorem dX0_isWithin_4 : decode cX0_isWithin 4 = .ok (.lload_n 1, 1) := by decide +kernel
theorem dX0_isWithin_5 : decode cX0_isWithin 5 = .ok (.invokestatic 41, 3) := by decide +kernel
theorem dX0_isWithin_8 : decode cX0_isWithin 8 = .ok (.ifCond .eq 62, 3) := by decide +kernel
theorem dX0_isWithin_11 : decode cX0_isWithin 11 = .ok (.aload_n 0, 1) := by decide +kernel
theorem dX0_isWithin_12 : decode cX0_isWithin 12 = .ok (.getfield 13, 3) := by decide +kernel
theorem dX0_isWithin_15 : decode cX0_isWithin 15 = .ok (.lload_n 1, 1) := by decide +kernel
theorem dX0_isWithin_16 : decode cX0_isWithin 16 = .ok (.invokestatic 41, 3) := by decide +kernel
theorem dX0_isWithin_19 : decode cX0_isWithin 19 = .ok (.ifCond .eq 51, 3) := by decide +kernel
theorem dX0_isWithin_22 : decode cX0_isWithin 22 = .ok (.aload_n 0, 1) := by decide +kernel
theorem dX0_isWithin_23 : decode cX0_isWithin 23 = .ok (.getfield 16, 3) := by decide +kernel
theorem dX0_isWithin_26 : decode cX0_isWithin 26 = .ok (.lload_n 1, 1) := by decide +kernel
theorem dX0_isWithin_27 : decode cX0_isWithin 27 = .ok (.invokestatic 41, 3) := by decide +kernel
theorem dX0_isWithin_30 : decode cX0_isWithin 30 = .ok (.ifCond .eq 40, 3) := by decide +kernel
theorem dX0_isWithin_33 : decode cX0_isWithin 33 = .ok (.aload_n 0, 1) := by decide +kernel
theorem dX0_isWithin_34 : decode cX0_isWithin 34 = .ok (.getfield 19, 3) := by decide +kernel
theorem dX0_isWithin_37 : decode cX0_isWithin 37 = .ok (.lload_n 1, 1) := by decide +kernel
theorem dX0_isWithin_38 : decode cX0_isWithin 38 = .ok (.invokestatic 41, 3) := by decide +kernel
theorem dX0_isWithin_41 : decode cX0_isWithin 41 = .ok (.ifCond .eq 29, 3) := by decide +kernel
theorem dX0_isWithin_44 : decode cX0_isWithin 44 = .ok (.aload_n 0, 1) := by decide +kernel
theorem dX0_isWithin_45 : decode cX0_isWithin 45 = .ok (.getfield 22, 3) := by decide +kernel
theorem dX0_isWithin_48 : decode cX0_isWithin 48 = .ok (.lload_n 1, 1) := by decide +kernel
theorem dX0_isWithin_49 : decode cX0_isWithin 49 = .ok (.invokestatic 41, 3) := by decide +kernel
theorem dX0_isWithin_52 : decode cX0_isWithin 52 = .ok (.ifCond .eq 18, 3) := by decide +kernel
theorem dX0_isWithin_55 : decode cX0_isWithin 55 = .ok (.aload_n 0, 1) := by decide +kernel
theorem dX0_isWithin_56 : decode cX0_isWithin 56 = .ok (.getfield 25, 3) := by decide +kernel
theorem dX0_isWithin_59 : decode cX0_isWithin 59 = .ok (.lload_n 1, 1) := by decide +kernel
theorem dX0_isWithin_60 : decode cX0_isWithin 60 = .ok (.invokestatic 41, 3) := by decide +kernel
theorem dX0_isWithin_63 : decode cX0_isWithin 63 = .ok (.ifCond .eq 7, 3) := by decide +kernel
theorem dX0_isWithin_66 : decode cX0_isWithin 66 = .ok (.iconst 1, 1) := by decide +kernel
theorem dX0_isWithin_67 : decode cX0_isWithin 67 = .ok (.goto 4, 3) := by decide +kernel
theorem dX0_isWithin_70 : decode cX0_isWithin 70 = .ok (.iconst 0, 1) := by decide +kernel
theorem dX0_isWithin_71 : decode cX0_isWithin 71 = .ok (.ireturn, 1) := by decide +kernel
theorem dX0_det_0 : decode cX0_det 0 = .ok (.ldc2_w 47, 3) := by decide +kernel
theorem dX0_det_3 : decode cX0_det 3 = .ok (.aload_n 0, 1) := by decide +kernel
theorem dX0_det_4 : decode cX0_det 4 = .ok (.getfield 7, 3) := by decide +kernel
theorem dX0_det_7 : decode cX0_det 7 = .ok (.lmul, 1) := by decide +kernel
theorem dX0_det_8 : decode cX0_det 8 = .ok (.aload_n 0, 1) := by decide +kernel
theorem dX0_det_9 : decode cX0_det 9 = .ok (.getfield 16, 3) := by decide +kernel
theorem dX0_det_12 : decode cX0_det 12 = .ok (.lmul, 1) := by decide +kernel
theorem dX0_det_13 : decode cX0_det 13 = .ok (.aload_n 0, 1) := by decide +kernel
theorem dX0_det_14 : decode cX0_det 14 = .ok (.getfield 25, 3) := by decide +kernel
theorem dX0_det_17 : decode cX0_det 17 = .ok (.lmul, 1) := by decide +kernel
theorem dX0_det_18 : decode cX0_det 18 = .ok (.aload_n 0, 1) := by decide +kernel
theorem dX0_det_19 : decode cX0_det 19 = .ok (.getfield 13, 3) := by decide +kernel
theorem dX0_det_22 : decode cX0_det 22 = .ok (.aload_n 0, 1) := by decide +kernel
theorem dX0_det_23 : decode cX0_det 23 = .ok (.getfield 19, 3) := by decide +kernel
theorem dX0_det_26 : decode cX0_det 26 = .ok (.lmul, 1) := by decide +kernel
theorem dX0_det_27 : decode cX0_det 27 = .ok (.aload_n 0, 1) := by decide +kernel
theorem dX0_det_28 : decode cX0_det 28 = .ok (.getfield 22, 3) := by decide +kernel
theorem dX0_det_31 : decode cX0_det 31 = .ok (.lmul, 1) := by decide +kernel
theorem dX0_det_32 : decode cX0_det 32 = .ok (.ladd, 1) := by decide +kernel
theorem dX0_det_33 : decode cX0_det 33 = .ok (.aload_n 0, 1) := by decide +kernel
theorem dX0_det_34 : decode cX0_det 34 = .ok (.getfield 7, 3) := by decide +kernel
theorem dX0_det_37 : decode cX0_det 37 = .ok (.aload_n 0, 1) := by decide +kernel
theorem dX0_det_38 : decode cX0_det 38 = .ok (.getfield 22, 3) := by decide +kernel
theorem dX0_det_41 : decode cX0_det 41 = .ok (.lmul, 1) := by decide +kernel
theorem dX0_det_42 : decode cX0_det 42 = .ok (.aload_n 0, 1) := by decide +kernel
theorem dX0_det_43 : decode cX0_det 43 = .ok (.getfield 22, 3) := by decide +kernel
theorem dX0_det_46 : decode cX0_det 46 = .ok (.lmul, 1) := by decide +kernel
theorem dX0_det_47 : decode cX0_det 47 = .ok (.lsub, 1) := by decide +kernel
theorem dX0_det_48 : decode cX0_det 48 = .ok (.aload_n 0, 1) := by decide +kernel
theorem dX0_det_49 : decode cX0_det 49 = .ok (.getfield 16, 3) := by decide +kernel
theorem dX0_det_52 : decode cX0_det 52 = .ok (.aload_n 0, 1) := by decide +kernel
theorem dX0_det_53 : decode cX0_det 53 = .ok (.getfield 19, 3) := by decide +kernel
theorem dX0_det_56 : decode cX0_det 56 = .ok (.lmul, 1) := by decide +kernel
theorem dX0_det_57 : decode cX0_det 57 = .ok (.aload_n 0, 1) := by decide +kernel
theorem dX0_det_58 : decode cX0_det 58 = .ok (.getfield 19, 3) := by decide +kernel
theorem dX0_det_61 : decode cX0_det 61 = .ok (.lmul, 1) := by decide +kernel
theorem dX0_det_62 : decode cX0_det 62 = .ok (.lsub, 1) := by decide +kernel
theorem dX0_det_63 : decode cX0_det 63 = .ok (.aload_n 0, 1) := by decide +kernel
theorem dX0_det_64 : decode cX0_det 64 = .ok (.getfield 25, 3) := by decide +kernel
theorem dX0_det_67 : decode cX0_det 67 = .ok (.aload_n 0, 1) := by decide +kernel
theorem dX0_det_68 : decode cX0_det 68 = .ok (.getfield 13, 3) := by decide +kernel
theorem dX0_det_71 : decode cX0_det 71 = .ok (.lmul, 1) := by decide +kernel
theorem dX0_det_72 : decode cX0_det 72 = .ok (.aload_n 0, 1) := by decide +kernel
theorem dX0_det_73 : decode cX0_det 73 = .ok (.getfield 13, 3) := by decide +kernel
theorem dX0_det_76 : decode cX0_det 76 = .ok (.lmul, 1) := by decide +kernel
theorem dX0_det_77 : decode cX0_det 77 = .ok (.lsub, 1) := by decide +kernel
theorem dX0_det_78 : decode cX0_det 78 = .ok (.lreturn, 1) := by decide +kernel
theorem dX0_disc_0 : decode cX0_disc 0 = .ok (.aload_n 0, 1) := by decide +kernel
theorem dX0_disc_1 : decode cX0_disc 1 = .ok (.getfield 13, 3) := by decide +kernel
theorem dX0_disc_4 : decode cX0_disc 4 = .ok (.aload_n 0, 1) := by decide +kernel
theorem dX0_disc_5 : decode cX0_disc 5 = .ok (.getfield 13, 3) := by decide +kernel
theorem dX0_disc_8 : decode cX0_disc 8 = .ok (.lmul, 1) := by decide +kernel
theorem dX0_disc_9 : decode cX0_disc 9 = .ok (.ldc2_w 47, 3) := by decide +kernel
theorem dX0_disc_12 : decode cX0_disc 12 = .ok (.aload_n 0, 1) := by decide +kernel
theorem dX0_disc_13 : decode cX0_disc 13 = .ok (.getfield 7, 3) := by decide +kernel
theorem dX0_disc_16 : decode cX0_disc 16 = .ok (.lmul, 1) := by decide +kernel
theorem dX0_disc_17 : decode cX0_disc 17 = .ok (.aload_n 0, 1) := by decide +kernel
theorem dX0_disc_18 : decode cX0_disc 18 = .ok (.getfield 16, 3) := by decide +kernel
theorem dX0_disc_21 : decode cX0_disc 21 = .ok (.lmul, 1) := by decide +kernel
theorem dX0_disc_22 : decode cX0_disc 22 = .ok (.lsub, 1) := by decide +kernel
theorem dX0_disc_23 : decode cX0_disc 23 = .ok (.lreturn, 1) := by decide +kernel
theorem dX0_valueAt_0 : decode cX0_valueAt 0 = .ok (.aload_n 0, 1) := by decide +kernel
theorem dX0_valueAt_1 : decode cX0_valueAt 1 = .ok (.getfield 7, 3) := by decide +kernel
theorem dX0_valueAt_4 : decode cX0_valueAt 4 = .ok (.aload_n 1, 1) := by decide +kernel
theorem dX0_valueAt_5 : decode cX0_valueAt 5 = .ok (.getfield 49, 3) := by decide +kernel
theorem dX0_valueAt_8 : decode cX0_valueAt 8 = .ok (.lmul, 1) := by decide +kernel
theorem dX0_valueAt_9 : decode cX0_valueAt 9 = .ok (.aload_n 1, 1) := by decide +kernel
theorem dX0_valueAt_10 : decode cX0_valueAt 10 = .ok (.getfield 49, 3) := by decide +kernel
theorem dX0_valueAt_13 : decode cX0_valueAt 13 = .ok (.lmul, 1) := by decide +kernel
theorem dX0_valueAt_14 : decode cX0_valueAt 14 = .ok (.aload_n 0, 1) := by decide +kernel
theorem dX0_valueAt_15 : decode cX0_valueAt 15 = .ok (.getfield 13, 3) := by decide +kernel
theorem dX0_valueAt_18 : decode cX0_valueAt 18 = .ok (.aload_n 1, 1) := by decide +kernel
theorem dX0_valueAt_19 : decode cX0_valueAt 19 = .ok (.getfield 49, 3) := by decide +kernel
theorem dX0_valueAt_22 : decode cX0_valueAt 22 = .ok (.lmul, 1) := by decide +kernel
theorem dX0_valueAt_23 : decode cX0_valueAt 23 = .ok (.aload_n 1, 1) := by decide +kernel
theorem dX0_valueAt_24 : decode cX0_valueAt 24 = .ok (.getfield 54, 3) := by decide +kernel
theorem dX0_valueAt_27 : decode cX0_valueAt 27 = .ok (.lmul, 1) := by decide +kernel
theorem dX0_valueAt_28 : decode cX0_valueAt 28 = .ok (.ladd, 1) := by decide +kernel
theorem dX0_valueAt_29 : decode cX0_valueAt 29 = .ok (.aload_n 0, 1) := by decide +kernel
theorem dX0_valueAt_30 : decode cX0_valueAt 30 = .ok (.getfield 16, 3) := by decide +kernel
theorem dX0_valueAt_33 : decode cX0_valueAt 33 = .ok (.aload_n 1, 1) := by decide +kernel
theorem dX0_valueAt_34 : decode cX0_valueAt 34 = .ok (.getfield 54, 3) := by decide +kernel
theorem dX0_valueAt_37 : decode cX0_valueAt 37 = .ok (.lmul, 1) := by decide +kernel
theorem dX0_valueAt_38 : decode cX0_valueAt 38 = .ok (.aload_n 1, 1) := by decide +kernel
theorem dX0_valueAt_39 : decode cX0_valueAt 39 = .ok (.getfield 54, 3) := by decide +kernel
theorem dX0_valueAt_42 : decode cX0_valueAt 42 = .ok (.lmul, 1) := by decide +kernel
theorem dX0_valueAt_43 : decode cX0_valueAt 43 = .ok (.ladd, 1) := by decide +kernel
theorem dX0_valueAt_44 : decode cX0_valueAt 44 = .ok (.aload_n 0, 1) := by decide +kernel
theorem dX0_valueAt_45 : decode cX0_valueAt 45 = .ok (.getfield 19, 3) := by decide +kernel
theorem dX0_valueAt_48 : decode cX0_valueAt 48 = .ok (.aload_n 1, 1) := by decide +kernel
theorem dX0_valueAt_49 : decode cX0_valueAt 49 = .ok (.getfield 49, 3) := by decide +kernel
theorem dX0_valueAt_52 : decode cX0_valueAt 52 = .ok (.lmul, 1) := by decide +kernel
theorem dX0_valueAt_53 : decode cX0_valueAt 53 = .ok (.aload_n 1, 1) := by decide +kernel
theorem dX0_valueAt_54 : decode cX0_valueAt 54 = .ok (.getfield 57, 3) := by decide +kernel
theorem dX0_valueAt_57 : decode cX0_valueAt 57 = .ok (.lmul, 1) := by decide +kernel
theorem dX0_valueAt_58 : decode cX0_valueAt 58 = .ok (.ladd, 1) := by decide +kernel
theorem dX0_valueAt_59 : decode cX0_valueAt 59 = .ok (.aload_n 0, 1) := by decide +kernel
theorem dX0_valueAt_60 : decode cX0_valueAt 60 = .ok (.getfield 22, 3) := by decide +kernel
theorem dX0_valueAt_63 : decode cX0_valueAt 63 = .ok (.aload_n 1, 1) := by decide +kernel
theorem dX0_valueAt_64 : decode cX0_valueAt 64 = .ok (.getfield 54, 3) := by decide +kernel
theorem dX0_valueAt_67 : decode cX0_valueAt 67 = .ok (.lmul, 1) := by decide +kernel
theorem dX0_valueAt_68 : decode cX0_valueAt 68 = .ok (.aload_n 1, 1) := by decide +kernel
theorem dX0_valueAt_69 : decode cX0_valueAt 69 = .ok (.getfield 57, 3) := by decide +kernel
theorem dX0_valueAt_72 : decode cX0_valueAt 72 = .ok (.lmul, 1) := by decide +kernel
theorem dX0_valueAt_73 : decode cX0_valueAt 73 = .ok (.ladd, 1) := by decide +kernel
theorem dX0_valueAt_74 : decode cX0_valueAt 74 = .ok (.aload_n 0, 1) := by decide +kernel
theorem dX0_valueAt_75 : decode cX0_valueAt 75 = .ok (.getfield 25, 3) := by decide +kernel
theorem dX0_valueAt_78 : decode cX0_valueAt 78 = .ok (.aload_n 1, 1) := by decide +kernel
theorem dX0_valueAt_79 : decode cX0_valueAt 79 = .ok (.getfield 57, 3) := by decide +kernel
theorem dX0_valueAt_82 : decode cX0_valueAt 82 = .ok (.lmul, 1) := by decide +kernel
theorem dX0_valueAt_83 : decode cX0_valueAt 83 = .ok (.aload_n 1, 1) := by decide +kernel
theorem dX0_valueAt_84 : decode cX0_valueAt 84 = .ok (.getfield 57, 3) := by decide +kernel
theorem dX0_valueAt_87 : decode cX0_valueAt 87 = .ok (.lmul, 1) := by decide +kernel
theorem dX0_valueAt_88 : decode cX0_valueAt 88 = .ok (.ladd, 1) := by decide +kernel
theorem dX0_valueAt_89 : decode cX0_valueAt 89 = .ok (.lreturn, 1) := by decide +kernel
theorem dX0_firstSquare_0 : decode cX0_firstSquare 0 = .ok (.aload_n 0, 1) := by decide +kernel
theorem dX0_firstSquare_1 : decode cX0_firstSquare 1 = .ok (.getfield 7, 3) := by decide +kernel
theorem dX0_firstSquare_4 : decode cX0_firstSquare 4 = .ok (.lconst 0, 1) := by decide +kernel
theorem dX0_firstSquare_5 : decode cX0_firstSquare 5 = .ok (.lcmp, 1) := by decide +kernel
theorem dX0_firstSquare_6 : decode cX0_firstSquare 6 = .ok (.ifCond .eq 8, 3) := by decide +kernel
theorem dX0_firstSquare_9 : decode cX0_firstSquare 9 = .ok (.aload_n 0, 1) := by decide +kernel
theorem dX0_firstSquare_10 : decode cX0_firstSquare 10 = .ok (.getfield 7, 3) := by decide +kernel
theorem dX0_firstSquare_13 : decode cX0_firstSquare 13 = .ok (.lreturn, 1) := by decide +kernel
theorem dX0_firstSquare_14 : decode cX0_firstSquare 14 = .ok (.aload_n 0, 1) := by decide +kernel
theorem dX0_firstSquare_15 : decode cX0_firstSquare 15 = .ok (.getfield 16, 3) := by decide +kernel
theorem dX0_firstSquare_18 : decode cX0_firstSquare 18 = .ok (.lconst 0, 1) := by decide +kernel
theorem dX0_firstSquare_19 : decode cX0_firstSquare 19 = .ok (.lcmp, 1) := by decide +kernel
theorem dX0_firstSquare_20 : decode cX0_firstSquare 20 = .ok (.ifCond .eq 10, 3) := by decide +kernel
theorem dX0_firstSquare_23 : decode cX0_firstSquare 23 = .ok (.aload_n 0, 1) := by decide +kernel
theorem dX0_firstSquare_24 : decode cX0_firstSquare 24 = .ok (.getfield 16, 3) := by decide +kernel
theorem dX0_firstSquare_27 : decode cX0_firstSquare 27 = .ok (.goto 7, 3) := by decide +kernel
theorem dX0_firstSquare_30 : decode cX0_firstSquare 30 = .ok (.aload_n 0, 1) := by decide +kernel
theorem dX0_firstSquare_31 : decode cX0_firstSquare 31 = .ok (.getfield 25, 3) := by decide +kernel
theorem dX0_firstSquare_34 : decode cX0_firstSquare 34 = .ok (.lreturn, 1) := by decide +kernel
set_option maxRecDepth 20000 in
theorem ggX0_reduce_X4_commonDivisor : GoodIn wsX0_reduce wsX4_commonDivisor := goodIn_r _ [13] (by decide +kernel) (by decide +kernel)
set_option maxRecDepth 20000 in
theorem gX0_reduce_X4_commonDivisor_n66 : GoodIn wsX0_reduce (wsX4_commonDivisor) := ggX0_reduce_X4_commonDivisor
set_option maxRecDepth 20000 in
theorem ggX0_reduce_X0_firstNumber : GoodIn wsX0_reduce wsX0_firstNumber := goodIn_r _ [18, 1, 6, 7, 8, 9, 10, 27, 28, 29, 30, 31, 32] (by decide +kernel) (by decide +kernel)
set_option maxRecDepth 20000 in
theorem gX0_reduce_X0_firstNumber : GoodIn wsX0_reduce (wsV RX0 70 RX0 yX0_firstNumber wsX0_firstNumber) := goodIn_app (goodIn_of _ (by decide +kernel)) ggX0_reduce_X0_firstNumber
set_option maxRecDepth 20000 in
theorem ggX0_reduce_X0_setQuadratic : GoodIn wsX0_reduce wsX0_setQuadratic := goodIn_r _ [22, 1, 6, 7, 27, 28, 29, 30, 31, 32] (by decide +kernel) (by decide +kernel)
set_option maxRecDepth 20000 in
theorem gX0_reduce_X0_setQuadratic : GoodIn wsX0_reduce (wsV RX0 34 RX0 yX0_setQuadratic wsX0_setQuadratic) := goodIn_app (goodIn_of _ (by decide +kernel)) ggX0_reduce_X0_setQuadratic
set_option maxRecDepth 20000 in
theorem ggX0_reduce_X0_setRest : GoodIn wsX0_reduce wsX0_setRest := goodIn_r _ [26, 8, 9, 10, 27, 28, 29, 30, 31, 32] (by decide +kernel) (by decide +kernel)
set_option maxRecDepth 20000 in
theorem gX0_reduce_X0_setRest : GoodIn wsX0_reduce (wsV RX0 38 RX0 yX0_setRest wsX0_setRest) := goodIn_app (goodIn_of _ (by decide +kernel)) ggX0_reduce_X0_setRest
theorem dX0_reduce_0 : decode cX0_reduce 0 = .ok (.aload_n 0, 1) := by decide +kernel
theorem dX0_reduce_1 : decode cX0_reduce 1 = .ok (.getfield 7, 3) := by decide +kernel
theorem dX0_reduce_4 : decode cX0_reduce 4 = .ok (.invokestatic 60, 3) := by decide +kernel
theorem dX0_reduce_7 : decode cX0_reduce 7 = .ok (.aload_n 0, 1) := by decide +kernel
theorem dX0_reduce_8 : decode cX0_reduce 8 = .ok (.getfield 13, 3) := by decide +kernel
theorem dX0_reduce_11 : decode cX0_reduce 11 = .ok (.invokestatic 60, 3) := by decide +kernel
theorem dX0_reduce_14 : decode cX0_reduce 14 = .ok (.invokestatic 66, 3) := by decide +kernel
theorem dX0_reduce_17 : decode cX0_reduce 17 = .ok (.aload_n 0, 1) := by decide +kernel
theorem dX0_reduce_18 : decode cX0_reduce 18 = .ok (.getfield 16, 3) := by decide +kernel
theorem dX0_reduce_21 : decode cX0_reduce 21 = .ok (.invokestatic 60, 3) := by decide +kernel
theorem dX0_reduce_24 : decode cX0_reduce 24 = .ok (.invokestatic 66, 3) := by decide +kernel
theorem dX0_reduce_27 : decode cX0_reduce 27 = .ok (.lstore_n 1, 1) := by decide +kernel
theorem dX0_reduce_28 : decode cX0_reduce 28 = .ok (.lload_n 1, 1) := by decide +kernel
theorem dX0_reduce_29 : decode cX0_reduce 29 = .ok (.aload_n 0, 1) := by decide +kernel
theorem dX0_reduce_30 : decode cX0_reduce 30 = .ok (.getfield 19, 3) := by decide +kernel
theorem dX0_reduce_33 : decode cX0_reduce 33 = .ok (.invokestatic 60, 3) := by decide +kernel
theorem dX0_reduce_36 : decode cX0_reduce 36 = .ok (.invokestatic 66, 3) := by decide +kernel
theorem dX0_reduce_39 : decode cX0_reduce 39 = .ok (.aload_n 0, 1) := by decide +kernel
theorem dX0_reduce_40 : decode cX0_reduce 40 = .ok (.getfield 22, 3) := by decide +kernel
theorem dX0_reduce_43 : decode cX0_reduce 43 = .ok (.invokestatic 60, 3) := by decide +kernel
theorem dX0_reduce_46 : decode cX0_reduce 46 = .ok (.invokestatic 66, 3) := by decide +kernel
theorem dX0_reduce_49 : decode cX0_reduce 49 = .ok (.lstore_n 1, 1) := by decide +kernel
theorem dX0_reduce_50 : decode cX0_reduce 50 = .ok (.lload_n 1, 1) := by decide +kernel
theorem dX0_reduce_51 : decode cX0_reduce 51 = .ok (.aload_n 0, 1) := by decide +kernel
theorem dX0_reduce_52 : decode cX0_reduce 52 = .ok (.getfield 25, 3) := by decide +kernel
theorem dX0_reduce_55 : decode cX0_reduce 55 = .ok (.invokestatic 60, 3) := by decide +kernel
theorem dX0_reduce_58 : decode cX0_reduce 58 = .ok (.invokestatic 66, 3) := by decide +kernel
theorem dX0_reduce_61 : decode cX0_reduce 61 = .ok (.lstore_n 1, 1) := by decide +kernel
theorem dX0_reduce_62 : decode cX0_reduce 62 = .ok (.aload_n 0, 1) := by decide +kernel
theorem dX0_reduce_63 : decode cX0_reduce 63 = .ok (.invokevirtual 70, 3) := by decide +kernel
theorem dX0_reduce_66 : decode cX0_reduce 66 = .ok (.lconst 0, 1) := by decide +kernel
theorem dX0_reduce_67 : decode cX0_reduce 67 = .ok (.lcmp, 1) := by decide +kernel
theorem dX0_reduce_68 : decode cX0_reduce 68 = .ok (.ifCond .ge 6, 3) := by decide +kernel
theorem dX0_reduce_71 : decode cX0_reduce 71 = .ok (.lload_n 1, 1) := by decide +kernel
theorem dX0_reduce_72 : decode cX0_reduce 72 = .ok (.lneg, 1) := by decide +kernel
theorem dX0_reduce_73 : decode cX0_reduce 73 = .ok (.lstore_n 1, 1) := by decide +kernel
theorem dX0_reduce_74 : decode cX0_reduce 74 = .ok (.lload_n 1, 1) := by decide +kernel
theorem dX0_reduce_75 : decode cX0_reduce 75 = .ok (.lconst 0, 1) := by decide +kernel
theorem dX0_reduce_76 : decode cX0_reduce 76 = .ok (.lcmp, 1) := by decide +kernel
theorem dX0_reduce_77 : decode cX0_reduce 77 = .ok (.ifCond .eq 47, 3) := by decide +kernel
theorem dX0_reduce_80 : decode cX0_reduce 80 = .ok (.aload_n 0, 1) := by decide +kernel
theorem dX0_reduce_81 : decode cX0_reduce 81 = .ok (.aload_n 0, 1) := by decide +kernel
theorem dX0_reduce_82 : decode cX0_reduce 82 = .ok (.getfield 7, 3) := by decide +kernel
theorem dX0_reduce_85 : decode cX0_reduce 85 = .ok (.lload_n 1, 1) := by decide +kernel
theorem dX0_reduce_86 : decode cX0_reduce 86 = .ok (.ldiv, 1) := by decide +kernel
theorem dX0_reduce_87 : decode cX0_reduce 87 = .ok (.aload_n 0, 1) := by decide +kernel
theorem dX0_reduce_88 : decode cX0_reduce 88 = .ok (.getfield 13, 3) := by decide +kernel
theorem dX0_reduce_91 : decode cX0_reduce 91 = .ok (.lload_n 1, 1) := by decide +kernel
theorem dX0_reduce_92 : decode cX0_reduce 92 = .ok (.ldiv, 1) := by decide +kernel
theorem dX0_reduce_93 : decode cX0_reduce 93 = .ok (.aload_n 0, 1) := by decide +kernel
theorem dX0_reduce_94 : decode cX0_reduce 94 = .ok (.getfield 16, 3) := by decide +kernel
theorem dX0_reduce_97 : decode cX0_reduce 97 = .ok (.lload_n 1, 1) := by decide +kernel
theorem dX0_reduce_98 : decode cX0_reduce 98 = .ok (.ldiv, 1) := by decide +kernel
theorem dX0_reduce_99 : decode cX0_reduce 99 = .ok (.invokevirtual 34, 3) := by decide +kernel
theorem dX0_reduce_102 : decode cX0_reduce 102 = .ok (.aload_n 0, 1) := by decide +kernel
theorem dX0_reduce_103 : decode cX0_reduce 103 = .ok (.aload_n 0, 1) := by decide +kernel
theorem dX0_reduce_104 : decode cX0_reduce 104 = .ok (.getfield 19, 3) := by decide +kernel
theorem dX0_reduce_107 : decode cX0_reduce 107 = .ok (.lload_n 1, 1) := by decide +kernel
theorem dX0_reduce_108 : decode cX0_reduce 108 = .ok (.ldiv, 1) := by decide +kernel
theorem dX0_reduce_109 : decode cX0_reduce 109 = .ok (.aload_n 0, 1) := by decide +kernel
theorem dX0_reduce_110 : decode cX0_reduce 110 = .ok (.getfield 22, 3) := by decide +kernel
theorem dX0_reduce_113 : decode cX0_reduce 113 = .ok (.lload_n 1, 1) := by decide +kernel
theorem dX0_reduce_114 : decode cX0_reduce 114 = .ok (.ldiv, 1) := by decide +kernel
theorem dX0_reduce_115 : decode cX0_reduce 115 = .ok (.aload_n 0, 1) := by decide +kernel
theorem dX0_reduce_116 : decode cX0_reduce 116 = .ok (.getfield 25, 3) := by decide +kernel
theorem dX0_reduce_119 : decode cX0_reduce 119 = .ok (.lload_n 1, 1) := by decide +kernel
theorem dX0_reduce_120 : decode cX0_reduce 120 = .ok (.ldiv, 1) := by decide +kernel
theorem dX0_reduce_121 : decode cX0_reduce 121 = .ok (.invokevirtual 38, 3) := by decide +kernel
theorem dX0_reduce_124 : decode cX0_reduce 124 = .ok (.return_, 1) := by decide +kernel
theorem dX0_firstNumber_0 : decode cX0_firstNumber 0 = .ok (.aload_n 0, 1) := by decide +kernel
theorem dX0_firstNumber_1 : decode cX0_firstNumber 1 = .ok (.getfield 7, 3) := by decide +kernel
theorem dX0_firstNumber_4 : decode cX0_firstNumber 4 = .ok (.lconst 0, 1) := by decide +kernel
theorem dX0_firstNumber_5 : decode cX0_firstNumber 5 = .ok (.lcmp, 1) := by decide +kernel
theorem dX0_firstNumber_6 : decode cX0_firstNumber 6 = .ok (.ifCond .ne 12, 3) := by decide +kernel
theorem dX0_firstNumber_9 : decode cX0_firstNumber 9 = .ok (.aload_n 0, 1) := by decide +kernel
theorem dX0_firstNumber_10 : decode cX0_firstNumber 10 = .ok (.getfield 13, 3) := by decide +kernel
theorem dX0_firstNumber_13 : decode cX0_firstNumber 13 = .ok (.lconst 0, 1) := by decide +kernel
theorem dX0_firstNumber_14 : decode cX0_firstNumber 14 = .ok (.lcmp, 1) := by decide +kernel
theorem dX0_firstNumber_15 : decode cX0_firstNumber 15 = .ok (.ifCond .eq 24, 3) := by decide +kernel
theorem dX0_firstNumber_18 : decode cX0_firstNumber 18 = .ok (.aload_n 0, 1) := by decide +kernel
theorem dX0_firstNumber_19 : decode cX0_firstNumber 19 = .ok (.getfield 7, 3) := by decide +kernel
theorem dX0_firstNumber_22 : decode cX0_firstNumber 22 = .ok (.lconst 0, 1) := by decide +kernel
theorem dX0_firstNumber_23 : decode cX0_firstNumber 23 = .ok (.lcmp, 1) := by decide +kernel
theorem dX0_firstNumber_24 : decode cX0_firstNumber 24 = .ok (.ifCond .eq 10, 3) := by decide +kernel
theorem dX0_firstNumber_27 : decode cX0_firstNumber 27 = .ok (.aload_n 0, 1) := by decide +kernel
theorem dX0_firstNumber_28 : decode cX0_firstNumber 28 = .ok (.getfield 7, 3) := by decide +kernel
theorem dX0_firstNumber_31 : decode cX0_firstNumber 31 = .ok (.goto 7, 3) := by decide +kernel
theorem dX0_firstNumber_34 : decode cX0_firstNumber 34 = .ok (.aload_n 0, 1) := by decide +kernel
theorem dX0_firstNumber_35 : decode cX0_firstNumber 35 = .ok (.getfield 13, 3) := by decide +kernel
theorem dX0_firstNumber_38 : decode cX0_firstNumber 38 = .ok (.lreturn, 1) := by decide +kernel
theorem dX0_firstNumber_39 : decode cX0_firstNumber 39 = .ok (.aload_n 0, 1) := by decide +kernel
theorem dX0_firstNumber_40 : decode cX0_firstNumber 40 = .ok (.getfield 16, 3) := by decide +kernel
theorem dX0_firstNumber_43 : decode cX0_firstNumber 43 = .ok (.lconst 0, 1) := by decide +kernel
theorem dX0_firstNumber_44 : decode cX0_firstNumber 44 = .ok (.lcmp, 1) := by decide +kernel
theorem dX0_firstNumber_45 : decode cX0_firstNumber 45 = .ok (.ifCond .ne 12, 3) := by decide +kernel
theorem dX0_firstNumber_48 : decode cX0_firstNumber 48 = .ok (.aload_n 0, 1) := by decide +kernel
theorem dX0_firstNumber_49 : decode cX0_firstNumber 49 = .ok (.getfield 19, 3) := by decide +kernel
theorem dX0_firstNumber_52 : decode cX0_firstNumber 52 = .ok (.lconst 0, 1) := by decide +kernel
theorem dX0_firstNumber_53 : decode cX0_firstNumber 53 = .ok (.lcmp, 1) := by decide +kernel
theorem dX0_firstNumber_54 : decode cX0_firstNumber 54 = .ok (.ifCond .eq 24, 3) := by decide +kernel
theorem dX0_firstNumber_57 : decode cX0_firstNumber 57 = .ok (.aload_n 0, 1) := by decide +kernel
theorem dX0_firstNumber_58 : decode cX0_firstNumber 58 = .ok (.getfield 16, 3) := by decide +kernel
theorem dX0_firstNumber_61 : decode cX0_firstNumber 61 = .ok (.lconst 0, 1) := by decide +kernel
theorem dX0_firstNumber_62 : decode cX0_firstNumber 62 = .ok (.lcmp, 1) := by decide +kernel
theorem dX0_firstNumber_63 : decode cX0_firstNumber 63 = .ok (.ifCond .eq 10, 3) := by decide +kernel
theorem dX0_firstNumber_66 : decode cX0_firstNumber 66 = .ok (.aload_n 0, 1) := by decide +kernel
theorem dX0_firstNumber_67 : decode cX0_firstNumber 67 = .ok (.getfield 16, 3) := by decide +kernel
theorem dX0_firstNumber_70 : decode cX0_firstNumber 70 = .ok (.goto 7, 3) := by decide +kernel
theorem dX0_firstNumber_73 : decode cX0_firstNumber 73 = .ok (.aload_n 0, 1) := by decide +kernel
theorem dX0_firstNumber_74 : decode cX0_firstNumber 74 = .ok (.getfield 19, 3) := by decide +kernel
theorem dX0_firstNumber_77 : decode cX0_firstNumber 77 = .ok (.lreturn, 1) := by decide +kernel
theorem dX0_firstNumber_78 : decode cX0_firstNumber 78 = .ok (.aload_n 0, 1) := by decide +kernel
theorem dX0_firstNumber_79 : decode cX0_firstNumber 79 = .ok (.getfield 22, 3) := by decide +kernel
theorem dX0_firstNumber_82 : decode cX0_firstNumber 82 = .ok (.lconst 0, 1) := by decide +kernel
theorem dX0_firstNumber_83 : decode cX0_firstNumber 83 = .ok (.lcmp, 1) := by decide +kernel
theorem dX0_firstNumber_84 : decode cX0_firstNumber 84 = .ok (.ifCond .eq 10, 3) := by decide +kernel
theorem dX0_firstNumber_87 : decode cX0_firstNumber 87 = .ok (.aload_n 0, 1) := by decide +kernel
theorem dX0_firstNumber_88 : decode cX0_firstNumber 88 = .ok (.getfield 22, 3) := by decide +kernel
theorem dX0_firstNumber_91 : decode cX0_firstNumber 91 = .ok (.goto 7, 3) := by decide +kernel
theorem dX0_firstNumber_94 : decode cX0_firstNumber 94 = .ok (.aload_n 0, 1) := by decide +kernel
theorem dX0_firstNumber_95 : decode cX0_firstNumber 95 = .ok (.getfield 25, 3) := by decide +kernel
theorem dX0_firstNumber_98 : decode cX0_firstNumber 98 = .ok (.lreturn, 1) := by decide +kernel
set_option maxRecDepth 20000 in
theorem ggX0_setMinors_X0_setQuadratic : GoodIn wsX0_setMinors wsX0_setQuadratic := goodIn_r _ [13, 8, 7, 2, 18, 19, 20, 21, 22, 23] (by decide +kernel) (by decide +kernel)
set_option maxRecDepth 20000 in
theorem gX0_setMinors_X0_setQuadratic : GoodIn wsX0_setMinors (wsV RX0 34 RX0 yX0_setQuadratic wsX0_setQuadratic) := goodIn_app (goodIn_of _ (by decide +kernel)) ggX0_setMinors_X0_setQuadratic
set_option maxRecDepth 20000 in
theorem ggX0_setMinors_X0_setRest : GoodIn wsX0_setMinors wsX0_setRest := goodIn_r _ [17, 5, 4, 3, 18, 19, 20, 21, 22, 23] (by decide +kernel) (by decide +kernel)
set_option maxRecDepth 20000 in
theorem gX0_setMinors_X0_setRest : GoodIn wsX0_setMinors (wsV RX0 38 RX0 yX0_setRest wsX0_setRest) := goodIn_app (goodIn_of _ (by decide +kernel)) ggX0_setMinors_X0_setRest
theorem dX0_setMinors_0 : decode cX0_setMinors 0 = .ok (.aload_n 0, 1) := by decide +kernel
theorem dX0_setMinors_1 : decode cX0_setMinors 1 = .ok (.ldc2_w 47, 3) := by decide +kernel
theorem dX0_setMinors_4 : decode cX0_setMinors 4 = .ok (.aload_n 1, 1) := by decide +kernel
theorem dX0_setMinors_5 : decode cX0_setMinors 5 = .ok (.getfield 16, 3) := by decide +kernel
theorem dX0_setMinors_8 : decode cX0_setMinors 8 = .ok (.lmul, 1) := by decide +kernel
theorem dX0_setMinors_9 : decode cX0_setMinors 9 = .ok (.aload_n 1, 1) := by decide +kernel
theorem dX0_setMinors_10 : decode cX0_setMinors 10 = .ok (.getfield 25, 3) := by decide +kernel
theorem dX0_setMinors_13 : decode cX0_setMinors 13 = .ok (.lmul, 1) := by decide +kernel
theorem dX0_setMinors_14 : decode cX0_setMinors 14 = .ok (.aload_n 1, 1) := by decide +kernel
theorem dX0_setMinors_15 : decode cX0_setMinors 15 = .ok (.getfield 22, 3) := by decide +kernel
theorem dX0_setMinors_18 : decode cX0_setMinors 18 = .ok (.aload_n 1, 1) := by decide +kernel
theorem dX0_setMinors_19 : decode cX0_setMinors 19 = .ok (.getfield 22, 3) := by decide +kernel
theorem dX0_setMinors_22 : decode cX0_setMinors 22 = .ok (.lmul, 1) := by decide +kernel
theorem dX0_setMinors_23 : decode cX0_setMinors 23 = .ok (.lsub, 1) := by decide +kernel
theorem dX0_setMinors_24 : decode cX0_setMinors 24 = .ok (.aload_n 1, 1) := by decide +kernel
theorem dX0_setMinors_25 : decode cX0_setMinors 25 = .ok (.getfield 19, 3) := by decide +kernel
theorem dX0_setMinors_28 : decode cX0_setMinors 28 = .ok (.aload_n 1, 1) := by decide +kernel
theorem dX0_setMinors_29 : decode cX0_setMinors 29 = .ok (.getfield 22, 3) := by decide +kernel
theorem dX0_setMinors_32 : decode cX0_setMinors 32 = .ok (.lmul, 1) := by decide +kernel
theorem dX0_setMinors_33 : decode cX0_setMinors 33 = .ok (.ldc2_w 74, 3) := by decide +kernel
theorem dX0_setMinors_36 : decode cX0_setMinors 36 = .ok (.aload_n 1, 1) := by decide +kernel
theorem dX0_setMinors_37 : decode cX0_setMinors 37 = .ok (.getfield 13, 3) := by decide +kernel
theorem dX0_setMinors_40 : decode cX0_setMinors 40 = .ok (.lmul, 1) := by decide +kernel
theorem dX0_setMinors_41 : decode cX0_setMinors 41 = .ok (.aload_n 1, 1) := by decide +kernel
theorem dX0_setMinors_42 : decode cX0_setMinors 42 = .ok (.getfield 25, 3) := by decide +kernel
theorem dX0_setMinors_45 : decode cX0_setMinors 45 = .ok (.lmul, 1) := by decide +kernel
theorem dX0_setMinors_46 : decode cX0_setMinors 46 = .ok (.lsub, 1) := by decide +kernel
theorem dX0_setMinors_47 : decode cX0_setMinors 47 = .ok (.ldc2_w 47, 3) := by decide +kernel
theorem dX0_setMinors_50 : decode cX0_setMinors 50 = .ok (.aload_n 1, 1) := by decide +kernel
theorem dX0_setMinors_51 : decode cX0_setMinors 51 = .ok (.getfield 7, 3) := by decide +kernel
theorem dX0_setMinors_54 : decode cX0_setMinors 54 = .ok (.lmul, 1) := by decide +kernel
theorem dX0_setMinors_55 : decode cX0_setMinors 55 = .ok (.aload_n 1, 1) := by decide +kernel
theorem dX0_setMinors_56 : decode cX0_setMinors 56 = .ok (.getfield 25, 3) := by decide +kernel
theorem dX0_setMinors_59 : decode cX0_setMinors 59 = .ok (.lmul, 1) := by decide +kernel
theorem dX0_setMinors_60 : decode cX0_setMinors 60 = .ok (.aload_n 1, 1) := by decide +kernel
theorem dX0_setMinors_61 : decode cX0_setMinors 61 = .ok (.getfield 19, 3) := by decide +kernel
theorem dX0_setMinors_64 : decode cX0_setMinors 64 = .ok (.aload_n 1, 1) := by decide +kernel
theorem dX0_setMinors_65 : decode cX0_setMinors 65 = .ok (.getfield 19, 3) := by decide +kernel
theorem dX0_setMinors_68 : decode cX0_setMinors 68 = .ok (.lmul, 1) := by decide +kernel
theorem dX0_setMinors_69 : decode cX0_setMinors 69 = .ok (.lsub, 1) := by decide +kernel
theorem dX0_setMinors_70 : decode cX0_setMinors 70 = .ok (.invokevirtual 34, 3) := by decide +kernel
theorem dX0_setMinors_73 : decode cX0_setMinors 73 = .ok (.aload_n 0, 1) := by decide +kernel
theorem dX0_setMinors_74 : decode cX0_setMinors 74 = .ok (.aload_n 1, 1) := by decide +kernel
theorem dX0_setMinors_75 : decode cX0_setMinors 75 = .ok (.getfield 13, 3) := by decide +kernel
theorem dX0_setMinors_78 : decode cX0_setMinors 78 = .ok (.aload_n 1, 1) := by decide +kernel
theorem dX0_setMinors_79 : decode cX0_setMinors 79 = .ok (.getfield 22, 3) := by decide +kernel
theorem dX0_setMinors_82 : decode cX0_setMinors 82 = .ok (.lmul, 1) := by decide +kernel
theorem dX0_setMinors_83 : decode cX0_setMinors 83 = .ok (.ldc2_w 74, 3) := by decide +kernel
theorem dX0_setMinors_86 : decode cX0_setMinors 86 = .ok (.aload_n 1, 1) := by decide +kernel
theorem dX0_setMinors_87 : decode cX0_setMinors 87 = .ok (.getfield 16, 3) := by decide +kernel
theorem dX0_setMinors_90 : decode cX0_setMinors 90 = .ok (.lmul, 1) := by decide +kernel
theorem dX0_setMinors_91 : decode cX0_setMinors 91 = .ok (.aload_n 1, 1) := by decide +kernel
theorem dX0_setMinors_92 : decode cX0_setMinors 92 = .ok (.getfield 19, 3) := by decide +kernel
theorem dX0_setMinors_95 : decode cX0_setMinors 95 = .ok (.lmul, 1) := by decide +kernel
theorem dX0_setMinors_96 : decode cX0_setMinors 96 = .ok (.lsub, 1) := by decide +kernel
theorem dX0_setMinors_97 : decode cX0_setMinors 97 = .ok (.aload_n 1, 1) := by decide +kernel
theorem dX0_setMinors_98 : decode cX0_setMinors 98 = .ok (.getfield 13, 3) := by decide +kernel
theorem dX0_setMinors_101 : decode cX0_setMinors 101 = .ok (.aload_n 1, 1) := by decide +kernel
theorem dX0_setMinors_102 : decode cX0_setMinors 102 = .ok (.getfield 19, 3) := by decide +kernel
theorem dX0_setMinors_105 : decode cX0_setMinors 105 = .ok (.lmul, 1) := by decide +kernel
theorem dX0_setMinors_106 : decode cX0_setMinors 106 = .ok (.ldc2_w 74, 3) := by decide +kernel
theorem dX0_setMinors_109 : decode cX0_setMinors 109 = .ok (.aload_n 1, 1) := by decide +kernel
theorem dX0_setMinors_110 : decode cX0_setMinors 110 = .ok (.getfield 7, 3) := by decide +kernel
theorem dX0_setMinors_113 : decode cX0_setMinors 113 = .ok (.lmul, 1) := by decide +kernel
theorem dX0_setMinors_114 : decode cX0_setMinors 114 = .ok (.aload_n 1, 1) := by decide +kernel
theorem dX0_setMinors_115 : decode cX0_setMinors 115 = .ok (.getfield 22, 3) := by decide +kernel
theorem dX0_setMinors_118 : decode cX0_setMinors 118 = .ok (.lmul, 1) := by decide +kernel
theorem dX0_setMinors_119 : decode cX0_setMinors 119 = .ok (.lsub, 1) := by decide +kernel
theorem dX0_setMinors_120 : decode cX0_setMinors 120 = .ok (.ldc2_w 47, 3) := by decide +kernel
theorem dX0_setMinors_123 : decode cX0_setMinors 123 = .ok (.aload_n 1, 1) := by decide +kernel
theorem dX0_setMinors_124 : decode cX0_setMinors 124 = .ok (.getfield 7, 3) := by decide +kernel
theorem dX0_setMinors_127 : decode cX0_setMinors 127 = .ok (.lmul, 1) := by decide +kernel
theorem dX0_setMinors_128 : decode cX0_setMinors 128 = .ok (.aload_n 1, 1) := by decide +kernel
theorem dX0_setMinors_129 : decode cX0_setMinors 129 = .ok (.getfield 16, 3) := by decide +kernel
theorem dX0_setMinors_132 : decode cX0_setMinors 132 = .ok (.lmul, 1) := by decide +kernel
theorem dX0_setMinors_133 : decode cX0_setMinors 133 = .ok (.aload_n 1, 1) := by decide +kernel
theorem dX0_setMinors_134 : decode cX0_setMinors 134 = .ok (.getfield 13, 3) := by decide +kernel
theorem dX0_setMinors_137 : decode cX0_setMinors 137 = .ok (.aload_n 1, 1) := by decide +kernel
theorem dX0_setMinors_138 : decode cX0_setMinors 138 = .ok (.getfield 13, 3) := by decide +kernel
theorem dX0_setMinors_141 : decode cX0_setMinors 141 = .ok (.lmul, 1) := by decide +kernel
theorem dX0_setMinors_142 : decode cX0_setMinors 142 = .ok (.lsub, 1) := by decide +kernel
theorem dX0_setMinors_143 : decode cX0_setMinors 143 = .ok (.invokevirtual 38, 3) := by decide +kernel
theorem dX0_setMinors_146 : decode cX0_setMinors 146 = .ok (.return_, 1) := by decide +kernel
set_option maxRecDepth 20000 in
theorem ggX0_setTogether_X0_setQuadratic : GoodIn wsX0_setTogether wsX0_setQuadratic := goodIn_r _ [11, 1, 2, 3, 16, 17, 18, 19, 20, 21] (by decide +kernel) (by decide +kernel)
set_option maxRecDepth 20000 in
theorem gX0_setTogether_X0_setQuadratic : GoodIn wsX0_setTogether (wsV RX0 34 RX0 yX0_setQuadratic wsX0_setQuadratic) := goodIn_app (goodIn_of _ (by decide +kernel)) ggX0_setTogether_X0_setQuadratic
set_option maxRecDepth 20000 in
theorem ggX0_setTogether_X0_setRest : GoodIn wsX0_setTogether wsX0_setRest := goodIn_r _ [15, 4, 5, 6, 16, 17, 18, 19, 20, 21] (by decide +kernel) (by decide +kernel)
set_option maxRecDepth 20000 in
theorem gX0_setTogether_X0_setRest : GoodIn wsX0_setTogether (wsV RX0 38 RX0 yX0_setRest wsX0_setRest) := goodIn_app (goodIn_of _ (by decide +kernel)) ggX0_setTogether_X0_setRest
theorem dX0_setTogether_0 : decode cX0_setTogether 0 = .ok (.aload_n 0, 1) := by decide +kernel
theorem dX0_setTogether_1 : decode cX0_setTogether 1 = .ok (.lload_n 2, 1) := by decide +kernel
theorem dX0_setTogether_2 : decode cX0_setTogether 2 = .ok (.aload_n 1, 1) := by decide +kernel
theorem dX0_setTogether_3 : decode cX0_setTogether 3 = .ok (.getfield 7, 3) := by decide +kernel
theorem dX0_setTogether_6 : decode cX0_setTogether 6 = .ok (.lmul, 1) := by decide +kernel
theorem dX0_setTogether_7 : decode cX0_setTogether 7 = .ok (.lload 5, 2) := by decide +kernel
theorem dX0_setTogether_9 : decode cX0_setTogether 9 = .ok (.aload 4, 2) := by decide +kernel
theorem dX0_setTogether_11 : decode cX0_setTogether 11 = .ok (.getfield 7, 3) := by decide +kernel
theorem dX0_setTogether_14 : decode cX0_setTogether 14 = .ok (.lmul, 1) := by decide +kernel
theorem dX0_setTogether_15 : decode cX0_setTogether 15 = .ok (.ladd, 1) := by decide +kernel
theorem dX0_setTogether_16 : decode cX0_setTogether 16 = .ok (.lload_n 2, 1) := by decide +kernel
theorem dX0_setTogether_17 : decode cX0_setTogether 17 = .ok (.aload_n 1, 1) := by decide +kernel
theorem dX0_setTogether_18 : decode cX0_setTogether 18 = .ok (.getfield 13, 3) := by decide +kernel
theorem dX0_setTogether_21 : decode cX0_setTogether 21 = .ok (.lmul, 1) := by decide +kernel
theorem dX0_setTogether_22 : decode cX0_setTogether 22 = .ok (.lload 5, 2) := by decide +kernel
theorem dX0_setTogether_24 : decode cX0_setTogether 24 = .ok (.aload 4, 2) := by decide +kernel
theorem dX0_setTogether_26 : decode cX0_setTogether 26 = .ok (.getfield 13, 3) := by decide +kernel
theorem dX0_setTogether_29 : decode cX0_setTogether 29 = .ok (.lmul, 1) := by decide +kernel
theorem dX0_setTogether_30 : decode cX0_setTogether 30 = .ok (.ladd, 1) := by decide +kernel
theorem dX0_setTogether_31 : decode cX0_setTogether 31 = .ok (.lload_n 2, 1) := by decide +kernel
theorem dX0_setTogether_32 : decode cX0_setTogether 32 = .ok (.aload_n 1, 1) := by decide +kernel
theorem dX0_setTogether_33 : decode cX0_setTogether 33 = .ok (.getfield 16, 3) := by decide +kernel
theorem dX0_setTogether_36 : decode cX0_setTogether 36 = .ok (.lmul, 1) := by decide +kernel
theorem dX0_setTogether_37 : decode cX0_setTogether 37 = .ok (.lload 5, 2) := by decide +kernel
theorem dX0_setTogether_39 : decode cX0_setTogether 39 = .ok (.aload 4, 2) := by decide +kernel
theorem dX0_setTogether_41 : decode cX0_setTogether 41 = .ok (.getfield 16, 3) := by decide +kernel
theorem dX0_setTogether_44 : decode cX0_setTogether 44 = .ok (.lmul, 1) := by decide +kernel
theorem dX0_setTogether_45 : decode cX0_setTogether 45 = .ok (.ladd, 1) := by decide +kernel
theorem dX0_setTogether_46 : decode cX0_setTogether 46 = .ok (.invokevirtual 34, 3) := by decide +kernel
theorem dX0_setTogether_49 : decode cX0_setTogether 49 = .ok (.aload_n 0, 1) := by decide +kernel
theorem dX0_setTogether_50 : decode cX0_setTogether 50 = .ok (.lload_n 2, 1) := by decide +kernel
theorem dX0_setTogether_51 : decode cX0_setTogether 51 = .ok (.aload_n 1, 1) := by decide +kernel
theorem dX0_setTogether_52 : decode cX0_setTogether 52 = .ok (.getfield 19, 3) := by decide +kernel
theorem dX0_setTogether_55 : decode cX0_setTogether 55 = .ok (.lmul, 1) := by decide +kernel
theorem dX0_setTogether_56 : decode cX0_setTogether 56 = .ok (.lload 5, 2) := by decide +kernel
theorem dX0_setTogether_58 : decode cX0_setTogether 58 = .ok (.aload 4, 2) := by decide +kernel
theorem dX0_setTogether_60 : decode cX0_setTogether 60 = .ok (.getfield 19, 3) := by decide +kernel
theorem dX0_setTogether_63 : decode cX0_setTogether 63 = .ok (.lmul, 1) := by decide +kernel
theorem dX0_setTogether_64 : decode cX0_setTogether 64 = .ok (.ladd, 1) := by decide +kernel
theorem dX0_setTogether_65 : decode cX0_setTogether 65 = .ok (.lload_n 2, 1) := by decide +kernel
theorem dX0_setTogether_66 : decode cX0_setTogether 66 = .ok (.aload_n 1, 1) := by decide +kernel
theorem dX0_setTogether_67 : decode cX0_setTogether 67 = .ok (.getfield 22, 3) := by decide +kernel
theorem dX0_setTogether_70 : decode cX0_setTogether 70 = .ok (.lmul, 1) := by decide +kernel
theorem dX0_setTogether_71 : decode cX0_setTogether 71 = .ok (.lload 5, 2) := by decide +kernel
theorem dX0_setTogether_73 : decode cX0_setTogether 73 = .ok (.aload 4, 2) := by decide +kernel
theorem dX0_setTogether_75 : decode cX0_setTogether 75 = .ok (.getfield 22, 3) := by decide +kernel
theorem dX0_setTogether_78 : decode cX0_setTogether 78 = .ok (.lmul, 1) := by decide +kernel
theorem dX0_setTogether_79 : decode cX0_setTogether 79 = .ok (.ladd, 1) := by decide +kernel
theorem dX0_setTogether_80 : decode cX0_setTogether 80 = .ok (.lload_n 2, 1) := by decide +kernel
theorem dX0_setTogether_81 : decode cX0_setTogether 81 = .ok (.aload_n 1, 1) := by decide +kernel
theorem dX0_setTogether_82 : decode cX0_setTogether 82 = .ok (.getfield 25, 3) := by decide +kernel
theorem dX0_setTogether_85 : decode cX0_setTogether 85 = .ok (.lmul, 1) := by decide +kernel
theorem dX0_setTogether_86 : decode cX0_setTogether 86 = .ok (.lload 5, 2) := by decide +kernel
theorem dX0_setTogether_88 : decode cX0_setTogether 88 = .ok (.aload 4, 2) := by decide +kernel
theorem dX0_setTogether_90 : decode cX0_setTogether 90 = .ok (.getfield 25, 3) := by decide +kernel
theorem dX0_setTogether_93 : decode cX0_setTogether 93 = .ok (.lmul, 1) := by decide +kernel
theorem dX0_setTogether_94 : decode cX0_setTogether 94 = .ok (.ladd, 1) := by decide +kernel
theorem dX0_setTogether_95 : decode cX0_setTogether 95 = .ok (.invokevirtual 38, 3) := by decide +kernel
theorem dX0_setTogether_98 : decode cX0_setTogether 98 = .ok (.return_, 1) := by decide +kernel
set_option maxRecDepth 20000 in
theorem ggX0_setThrough_X0_valueAt : GoodIn wsX0_setThrough wsX0_valueAt := goodIn_r _ [5, 6, 7, 8, 9, 10, 11, 24, 25, 26, 27, 28, 29, 30, 31, 32] (by decide +kernel) (by decide +kernel)
set_option maxRecDepth 20000 in
theorem gX0_setThrough_X0_valueAt : GoodIn wsX0_setThrough (wsV RX0 76 RX0 yX0_valueAt wsX0_valueAt) := goodIn_app (goodIn_of _ (by decide +kernel)) ggX0_setThrough_X0_valueAt
set_option maxRecDepth 20000 in
theorem ggX0_setThrough_X0_setTogether : GoodIn wsX0_setThrough wsX0_setTogether := goodIn_r _ [15, 6, 7, 8, 9, 10, 11, 16, 17, 18, 4, 19, 20, 21, 22, 23, 24, 25, 26, 27, 28, 29] (by decide +kernel) (by decide +kernel)
set_option maxRecDepth 20000 in
theorem gX0_setThrough_X0_setTogether : GoodIn wsX0_setThrough (wsV RX0 80 RX0 yX0_setTogether wsX0_setTogether) := goodIn_app (goodIn_of _ (by decide +kernel)) ggX0_setThrough_X0_setTogether
theorem dX0_setThrough_0 : decode cX0_setThrough 0 = .ok (.aload_n 0, 1) := by decide +kernel
theorem dX0_setThrough_1 : decode cX0_setThrough 1 = .ok (.aload_n 1, 1) := by decide +kernel
theorem dX0_setThrough_2 : decode cX0_setThrough 2 = .ok (.aload_n 2, 1) := by decide +kernel
theorem dX0_setThrough_3 : decode cX0_setThrough 3 = .ok (.aload_n 3, 1) := by decide +kernel
theorem dX0_setThrough_4 : decode cX0_setThrough 4 = .ok (.invokevirtual 76, 3) := by decide +kernel
theorem dX0_setThrough_7 : decode cX0_setThrough 7 = .ok (.aload_n 2, 1) := by decide +kernel
theorem dX0_setThrough_8 : decode cX0_setThrough 8 = .ok (.aload_n 1, 1) := by decide +kernel
theorem dX0_setThrough_9 : decode cX0_setThrough 9 = .ok (.aload_n 3, 1) := by decide +kernel
theorem dX0_setThrough_10 : decode cX0_setThrough 10 = .ok (.invokevirtual 76, 3) := by decide +kernel
theorem dX0_setThrough_13 : decode cX0_setThrough 13 = .ok (.lneg, 1) := by decide +kernel
theorem dX0_setThrough_14 : decode cX0_setThrough 14 = .ok (.invokevirtual 80, 3) := by decide +kernel
theorem dX0_setThrough_17 : decode cX0_setThrough 17 = .ok (.return_, 1) := by decide +kernel
set_option maxRecDepth 20000 in
theorem ggX0_setLines_X0_setQuadratic : GoodIn wsX0_setLines wsX0_setQuadratic := goodIn_r _ [5, 6, 7, 8, 19, 20, 21, 22, 23, 24] (by decide +kernel) (by decide +kernel)
set_option maxRecDepth 20000 in
theorem gX0_setLines_X0_setQuadratic : GoodIn wsX0_setLines (wsV RX0 34 RX0 yX0_setQuadratic wsX0_setQuadratic) := goodIn_app (goodIn_of _ (by decide +kernel)) ggX0_setLines_X0_setQuadratic
set_option maxRecDepth 20000 in
theorem ggX0_setLines_X0_setRest : GoodIn wsX0_setLines wsX0_setRest := goodIn_r _ [12, 13, 14, 15, 19, 20, 21, 22, 23, 24] (by decide +kernel) (by decide +kernel)
set_option maxRecDepth 20000 in
theorem gX0_setLines_X0_setRest : GoodIn wsX0_setLines (wsV RX0 38 RX0 yX0_setRest wsX0_setRest) := goodIn_app (goodIn_of _ (by decide +kernel)) ggX0_setLines_X0_setRest
theorem dX0_setLines_0 : decode cX0_setLines 0 = .ok (.aload_n 0, 1) := by decide +kernel
theorem dX0_setLines_1 : decode cX0_setLines 1 = .ok (.aload_n 1, 1) := by decide +kernel
theorem dX0_setLines_2 : decode cX0_setLines 2 = .ok (.getfield 49, 3) := by decide +kernel
theorem dX0_setLines_5 : decode cX0_setLines 5 = .ok (.aload_n 2, 1) := by decide +kernel
theorem dX0_setLines_6 : decode cX0_setLines 6 = .ok (.getfield 49, 3) := by decide +kernel
theorem dX0_setLines_9 : decode cX0_setLines 9 = .ok (.lmul, 1) := by decide +kernel
theorem dX0_setLines_10 : decode cX0_setLines 10 = .ok (.aload_n 1, 1) := by decide +kernel
theorem dX0_setLines_11 : decode cX0_setLines 11 = .ok (.getfield 49, 3) := by decide +kernel
theorem dX0_setLines_14 : decode cX0_setLines 14 = .ok (.aload_n 2, 1) := by decide +kernel
theorem dX0_setLines_15 : decode cX0_setLines 15 = .ok (.getfield 54, 3) := by decide +kernel
theorem dX0_setLines_18 : decode cX0_setLines 18 = .ok (.lmul, 1) := by decide +kernel
theorem dX0_setLines_19 : decode cX0_setLines 19 = .ok (.aload_n 1, 1) := by decide +kernel
theorem dX0_setLines_20 : decode cX0_setLines 20 = .ok (.getfield 54, 3) := by decide +kernel
theorem dX0_setLines_23 : decode cX0_setLines 23 = .ok (.aload_n 2, 1) := by decide +kernel
theorem dX0_setLines_24 : decode cX0_setLines 24 = .ok (.getfield 49, 3) := by decide +kernel
theorem dX0_setLines_27 : decode cX0_setLines 27 = .ok (.lmul, 1) := by decide +kernel
theorem dX0_setLines_28 : decode cX0_setLines 28 = .ok (.ladd, 1) := by decide +kernel
theorem dX0_setLines_29 : decode cX0_setLines 29 = .ok (.aload_n 1, 1) := by decide +kernel
theorem dX0_setLines_30 : decode cX0_setLines 30 = .ok (.getfield 54, 3) := by decide +kernel
theorem dX0_setLines_33 : decode cX0_setLines 33 = .ok (.aload_n 2, 1) := by decide +kernel
theorem dX0_setLines_34 : decode cX0_setLines 34 = .ok (.getfield 54, 3) := by decide +kernel
theorem dX0_setLines_37 : decode cX0_setLines 37 = .ok (.lmul, 1) := by decide +kernel
theorem dX0_setLines_38 : decode cX0_setLines 38 = .ok (.invokevirtual 34, 3) := by decide +kernel
theorem dX0_setLines_41 : decode cX0_setLines 41 = .ok (.aload_n 0, 1) := by decide +kernel
theorem dX0_setLines_42 : decode cX0_setLines 42 = .ok (.aload_n 1, 1) := by decide +kernel
theorem dX0_setLines_43 : decode cX0_setLines 43 = .ok (.getfield 49, 3) := by decide +kernel
theorem dX0_setLines_46 : decode cX0_setLines 46 = .ok (.aload_n 2, 1) := by decide +kernel
theorem dX0_setLines_47 : decode cX0_setLines 47 = .ok (.getfield 57, 3) := by decide +kernel
theorem dX0_setLines_50 : decode cX0_setLines 50 = .ok (.lmul, 1) := by decide +kernel
theorem dX0_setLines_51 : decode cX0_setLines 51 = .ok (.aload_n 1, 1) := by decide +kernel
theorem dX0_setLines_52 : decode cX0_setLines 52 = .ok (.getfield 57, 3) := by decide +kernel
theorem dX0_setLines_55 : decode cX0_setLines 55 = .ok (.aload_n 2, 1) := by decide +kernel
theorem dX0_setLines_56 : decode cX0_setLines 56 = .ok (.getfield 49, 3) := by decide +kernel
theorem dX0_setLines_59 : decode cX0_setLines 59 = .ok (.lmul, 1) := by decide +kernel
theorem dX0_setLines_60 : decode cX0_setLines 60 = .ok (.ladd, 1) := by decide +kernel
theorem dX0_setLines_61 : decode cX0_setLines 61 = .ok (.aload_n 1, 1) := by decide +kernel
theorem dX0_setLines_62 : decode cX0_setLines 62 = .ok (.getfield 54, 3) := by decide +kernel
theorem dX0_setLines_65 : decode cX0_setLines 65 = .ok (.aload_n 2, 1) := by decide +kernel
theorem dX0_setLines_66 : decode cX0_setLines 66 = .ok (.getfield 57, 3) := by decide +kernel
theorem dX0_setLines_69 : decode cX0_setLines 69 = .ok (.lmul, 1) := by decide +kernel
theorem dX0_setLines_70 : decode cX0_setLines 70 = .ok (.aload_n 1, 1) := by decide +kernel
theorem dX0_setLines_71 : decode cX0_setLines 71 = .ok (.getfield 57, 3) := by decide +kernel
theorem dX0_setLines_74 : decode cX0_setLines 74 = .ok (.aload_n 2, 1) := by decide +kernel
theorem dX0_setLines_75 : decode cX0_setLines 75 = .ok (.getfield 54, 3) := by decide +kernel
theorem dX0_setLines_78 : decode cX0_setLines 78 = .ok (.lmul, 1) := by decide +kernel
theorem dX0_setLines_79 : decode cX0_setLines 79 = .ok (.ladd, 1) := by decide +kernel
theorem dX0_setLines_80 : decode cX0_setLines 80 = .ok (.aload_n 1, 1) := by decide +kernel
theorem dX0_setLines_81 : decode cX0_setLines 81 = .ok (.getfield 57, 3) := by decide +kernel
theorem dX0_setLines_84 : decode cX0_setLines 84 = .ok (.aload_n 2, 1) := by decide +kernel
theorem dX0_setLines_85 : decode cX0_setLines 85 = .ok (.getfield 57, 3) := by decide +kernel
theorem dX0_setLines_88 : decode cX0_setLines 88 = .ok (.lmul, 1) := by decide +kernel
theorem dX0_setLines_89 : decode cX0_setLines 89 = .ok (.invokevirtual 38, 3) := by decide +kernel
theorem dX0_setLines_92 : decode cX0_setLines 92 = .ok (.return_, 1) := by decide +kernel
