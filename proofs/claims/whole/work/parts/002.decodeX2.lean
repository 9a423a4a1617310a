theorem dX2_init_0 : decode cX2_init 0 = .ok (.aload_n 0, 1) := by decide +kernel
theorem dX2_init_1 : decode cX2_init 1 = .ok (.invokespecial 3, 3) := by decide +kernel
theorem dX2_init_4 : decode cX2_init 4 = .ok (.aload_n 0, 1) := by decide +kernel
theorem dX2_init_5 : decode cX2_init 5 = .ok (.iload_n 1, 1) := by decide +kernel
theorem dX2_init_6 : decode cX2_init 6 = .ok (.bipush 6, 2) := by decide +kernel
theorem dX2_init_8 : decode cX2_init 8 = .ok (.if_icmp .ne 8, 3) := by decide +kernel
theorem dX2_init_11 : decode cX2_init 11 = .ok (.bipush 6, 2) := by decide +kernel
theorem dX2_init_13 : decode cX2_init 13 = .ok (.goto 4, 3) := by decide +kernel
theorem dX2_init_16 : decode cX2_init 16 = .ok (.iconst 3, 1) := by decide +kernel
theorem dX2_init_17 : decode cX2_init 17 = .ok (.putfield 9, 3) := by decide +kernel
theorem dX2_init_20 : decode cX2_init 20 = .ok (.aload_n 0, 1) := by decide +kernel
theorem dX2_init_21 : decode cX2_init 21 = .ok (.bipush 60, 2) := by decide +kernel
theorem dX2_init_23 : decode cX2_init 23 = .ok (.aload_n 0, 1) := by decide +kernel
theorem dX2_init_24 : decode cX2_init 24 = .ok (.getfield 9, 3) := by decide +kernel
theorem dX2_init_27 : decode cX2_init 27 = .ok (.imul, 1) := by decide +kernel
theorem dX2_init_28 : decode cX2_init 28 = .ok (.newarray .int, 2) := by decide +kernel
theorem dX2_init_30 : decode cX2_init 30 = .ok (.putfield 15, 3) := by decide +kernel
theorem dX2_init_33 : decode cX2_init 33 = .ok (.aload_n 0, 1) := by decide +kernel
theorem dX2_init_34 : decode cX2_init 34 = .ok (.iconst 0, 1) := by decide +kernel
theorem dX2_init_35 : decode cX2_init 35 = .ok (.putfield 19, 3) := by decide +kernel
theorem dX2_init_38 : decode cX2_init 38 = .ok (.return_, 1) := by decide +kernel
theorem dX2_has_0 : decode cX2_has 0 = .ok (.iload_n 1, 1) := by decide +kernel
theorem dX2_has_1 : decode cX2_has 1 = .ok (.ifCond .lt 15, 3) := by decide +kernel
theorem dX2_has_4 : decode cX2_has 4 = .ok (.iload_n 1, 1) := by decide +kernel
theorem dX2_has_5 : decode cX2_has 5 = .ok (.aload_n 0, 1) := by decide +kernel
theorem dX2_has_6 : decode cX2_has 6 = .ok (.getfield 19, 3) := by decide +kernel
theorem dX2_has_9 : decode cX2_has 9 = .ok (.if_icmp .ge 7, 3) := by decide +kernel
theorem dX2_has_12 : decode cX2_has 12 = .ok (.iconst 1, 1) := by decide +kernel
theorem dX2_has_13 : decode cX2_has 13 = .ok (.goto 4, 3) := by decide +kernel
theorem dX2_has_16 : decode cX2_has 16 = .ok (.iconst 0, 1) := by decide +kernel
theorem dX2_has_17 : decode cX2_has 17 = .ok (.ireturn, 1) := by decide +kernel
set_option maxRecDepth 20000 in
theorem ggX2_get_X2_has : GoodIn wsX2_get wsX2_has := goodIn_r _ [7, 8, 9, 10, 11] (by decide +kernel) (by decide +kernel)
set_option maxRecDepth 20000 in
theorem gX2_get_X2_has : GoodIn wsX2_get (wsV RX2 22 RX2 yX2_has wsX2_has) := goodIn_app (goodIn_of _ (by decide +kernel)) ggX2_get_X2_has
theorem dX2_get_0 : decode cX2_get 0 = .ok (.aload_n 0, 1) := by decide +kernel
theorem dX2_get_1 : decode cX2_get 1 = .ok (.iload_n 1, 1) := by decide +kernel
theorem dX2_get_2 : decode cX2_get 2 = .ok (.invokevirtual 22, 3) := by decide +kernel
theorem dX2_get_5 : decode cX2_get 5 = .ok (.ifCond .eq 31, 3) := by decide +kernel
theorem dX2_get_8 : decode cX2_get 8 = .ok (.iload_n 2, 1) := by decide +kernel
theorem dX2_get_9 : decode cX2_get 9 = .ok (.ifCond .lt 27, 3) := by decide +kernel
theorem dX2_get_12 : decode cX2_get 12 = .ok (.iload_n 2, 1) := by decide +kernel
theorem dX2_get_13 : decode cX2_get 13 = .ok (.aload_n 0, 1) := by decide +kernel
theorem dX2_get_14 : decode cX2_get 14 = .ok (.getfield 9, 3) := by decide +kernel
theorem dX2_get_17 : decode cX2_get 17 = .ok (.if_icmp .ge 19, 3) := by decide +kernel
theorem dX2_get_20 : decode cX2_get 20 = .ok (.aload_n 0, 1) := by decide +kernel
theorem dX2_get_21 : decode cX2_get 21 = .ok (.getfield 15, 3) := by decide +kernel
theorem dX2_get_24 : decode cX2_get 24 = .ok (.iload_n 1, 1) := by decide +kernel
theorem dX2_get_25 : decode cX2_get 25 = .ok (.aload_n 0, 1) := by decide +kernel
theorem dX2_get_26 : decode cX2_get 26 = .ok (.getfield 9, 3) := by decide +kernel
theorem dX2_get_29 : decode cX2_get 29 = .ok (.imul, 1) := by decide +kernel
theorem dX2_get_30 : decode cX2_get 30 = .ok (.iload_n 2, 1) := by decide +kernel
theorem dX2_get_31 : decode cX2_get 31 = .ok (.iadd, 1) := by decide +kernel
theorem dX2_get_32 : decode cX2_get 32 = .ok (.iaload, 1) := by decide +kernel
theorem dX2_get_33 : decode cX2_get 33 = .ok (.goto 4, 3) := by decide +kernel
theorem dX2_get_36 : decode cX2_get 36 = .ok (.iconst 0, 1) := by decide +kernel
theorem dX2_get_37 : decode cX2_get 37 = .ok (.ireturn, 1) := by decide +kernel
set_option maxRecDepth 20000 in
theorem ggX2_areSame_X2_get : GoodIn wsX2_areSame wsX2_get := goodIn_r _ [6, 1, 7, 8, 9, 10, 5, 11, 12, 13, 14, 15] (by decide +kernel) (by decide +kernel)
set_option maxRecDepth 20000 in
theorem gX2_areSame_X2_get : GoodIn wsX2_areSame (wsV RX2 26 RX2 yX2_get wsX2_get) := goodIn_app (goodIn_of _ (by decide +kernel)) ggX2_areSame_X2_get
theorem dX2_areSame_0 : decode cX2_areSame 0 = .ok (.iconst 0, 1) := by decide +kernel
theorem dX2_areSame_1 : decode cX2_areSame 1 = .ok (.istore_n 3, 1) := by decide +kernel
theorem dX2_areSame_2 : decode cX2_areSame 2 = .ok (.iload_n 3, 1) := by decide +kernel
theorem dX2_areSame_3 : decode cX2_areSame 3 = .ok (.aload_n 0, 1) := by decide +kernel
theorem dX2_areSame_4 : decode cX2_areSame 4 = .ok (.getfield 9, 3) := by decide +kernel
theorem dX2_areSame_7 : decode cX2_areSame 7 = .ok (.if_icmp .ge 26, 3) := by decide +kernel
theorem dX2_areSame_10 : decode cX2_areSame 10 = .ok (.aload_n 0, 1) := by decide +kernel
theorem dX2_areSame_11 : decode cX2_areSame 11 = .ok (.iload_n 1, 1) := by decide +kernel
theorem dX2_areSame_12 : decode cX2_areSame 12 = .ok (.iload_n 3, 1) := by decide +kernel
theorem dX2_areSame_13 : decode cX2_areSame 13 = .ok (.invokevirtual 26, 3) := by decide +kernel
theorem dX2_areSame_16 : decode cX2_areSame 16 = .ok (.aload_n 0, 1) := by decide +kernel
theorem dX2_areSame_17 : decode cX2_areSame 17 = .ok (.iload_n 2, 1) := by decide +kernel
theorem dX2_areSame_18 : decode cX2_areSame 18 = .ok (.iload_n 3, 1) := by decide +kernel
theorem dX2_areSame_19 : decode cX2_areSame 19 = .ok (.invokevirtual 26, 3) := by decide +kernel
theorem dX2_areSame_22 : decode cX2_areSame 22 = .ok (.if_icmp .eq 5, 3) := by decide +kernel
theorem dX2_areSame_25 : decode cX2_areSame 25 = .ok (.iconst 0, 1) := by decide +kernel
theorem dX2_areSame_26 : decode cX2_areSame 26 = .ok (.ireturn, 1) := by decide +kernel
theorem dX2_areSame_27 : decode cX2_areSame 27 = .ok (.iinc 3 1, 3) := by decide +kernel
theorem dX2_areSame_30 : decode cX2_areSame 30 = .ok (.goto (-28), 3) := by decide +kernel
theorem dX2_areSame_33 : decode cX2_areSame 33 = .ok (.iconst 1, 1) := by decide +kernel
theorem dX2_areSame_34 : decode cX2_areSame 34 = .ok (.ireturn, 1) := by decide +kernel
set_option maxRecDepth 20000 in
theorem ggX2_keepTriple_X3_reduce : GoodIn wsX2_keepTriple wsX3_reduce := goodIn_r _ [7, 8, 9, 10, 11, 12, 13, 14, 15, 16, 17, 18, 19, 20, 6, 21, 41, 42, 43] (by decide +kernel) (by decide +kernel)
set_option maxRecDepth 20000 in
theorem gX2_keepTriple_X3_reduce : GoodIn wsX2_keepTriple (wsV RX2 30 RX3 yX3_reduce wsX3_reduce) := goodIn_app (goodIn_of _ (by decide +kernel)) ggX2_keepTriple_X3_reduce
set_option maxRecDepth 20000 in
theorem ggX2_keepTriple_X3_isWithin : GoodIn wsX2_keepTriple wsX3_isWithin := goodIn_r _ [25, 8, 13, 14, 26, 16, 27, 41, 42, 43] (by decide +kernel) (by decide +kernel)
set_option maxRecDepth 20000 in
theorem gX2_keepTriple_X3_isWithin : GoodIn wsX2_keepTriple (wsV RX2 37 RX3 yX3_isWithin wsX3_isWithin) := goodIn_app (goodIn_of _ (by decide +kernel)) ggX2_keepTriple_X3_isWithin
set_option maxRecDepth 20000 in
theorem ggX2_keepTriple_X2_put : GoodIn wsX2_keepTriple wsX2_put := goodIn_r _ [32, 33, 34, 35, 44, 45, 46] (by decide +kernel) (by decide +kernel)
set_option maxRecDepth 20000 in
theorem gX2_keepTriple_X2_put : GoodIn wsX2_keepTriple (wsV RX2 46 RX2 yX2_put wsX2_put) := goodIn_app (goodIn_of _ (by decide +kernel)) ggX2_keepTriple_X2_put
set_option maxRecDepth 20000 in
theorem ggX2_keepTriple_X2_close : GoodIn wsX2_keepTriple wsX2_close := goodIn_r _ [39, 33, 40, 44, 45, 46] (by decide +kernel) (by decide +kernel)
set_option maxRecDepth 20000 in
theorem gX2_keepTriple_X2_close : GoodIn wsX2_keepTriple (wsV RX2 56 RX2 yX2_close wsX2_close) := goodIn_app (goodIn_of _ (by decide +kernel)) ggX2_keepTriple_X2_close
theorem dX2_keepTriple_0 : decode cX2_keepTriple 0 = .ok (.aload_n 1, 1) := by decide +kernel
theorem dX2_keepTriple_1 : decode cX2_keepTriple 1 = .ok (.invokevirtual 30, 3) := by decide +kernel
theorem dX2_keepTriple_4 : decode cX2_keepTriple 4 = .ok (.aload_n 1, 1) := by decide +kernel
theorem dX2_keepTriple_5 : decode cX2_keepTriple 5 = .ok (.ldc2_w 35, 3) := by decide +kernel
theorem dX2_keepTriple_8 : decode cX2_keepTriple 8 = .ok (.invokevirtual 37, 3) := by decide +kernel
theorem dX2_keepTriple_11 : decode cX2_keepTriple 11 = .ok (.ifCond .ne 6, 3) := by decide +kernel
theorem dX2_keepTriple_14 : decode cX2_keepTriple 14 = .ok (.ldc 41, 2) := by decide +kernel
theorem dX2_keepTriple_16 : decode cX2_keepTriple 16 = .ok (.ireturn, 1) := by decide +kernel
theorem dX2_keepTriple_17 : decode cX2_keepTriple 17 = .ok (.aload_n 0, 1) := by decide +kernel
theorem dX2_keepTriple_18 : decode cX2_keepTriple 18 = .ok (.iconst 0, 1) := by decide +kernel
theorem dX2_keepTriple_19 : decode cX2_keepTriple 19 = .ok (.aload_n 1, 1) := by decide +kernel
theorem dX2_keepTriple_20 : decode cX2_keepTriple 20 = .ok (.getfield 42, 3) := by decide +kernel
theorem dX2_keepTriple_23 : decode cX2_keepTriple 23 = .ok (.invokevirtual 46, 3) := by decide +kernel
theorem dX2_keepTriple_26 : decode cX2_keepTriple 26 = .ok (.aload_n 0, 1) := by decide +kernel
theorem dX2_keepTriple_27 : decode cX2_keepTriple 27 = .ok (.iconst 1, 1) := by decide +kernel
theorem dX2_keepTriple_28 : decode cX2_keepTriple 28 = .ok (.aload_n 1, 1) := by decide +kernel
theorem dX2_keepTriple_29 : decode cX2_keepTriple 29 = .ok (.getfield 50, 3) := by decide +kernel
theorem dX2_keepTriple_32 : decode cX2_keepTriple 32 = .ok (.invokevirtual 46, 3) := by decide +kernel
theorem dX2_keepTriple_35 : decode cX2_keepTriple 35 = .ok (.aload_n 0, 1) := by decide +kernel
theorem dX2_keepTriple_36 : decode cX2_keepTriple 36 = .ok (.iconst 2, 1) := by decide +kernel
theorem dX2_keepTriple_37 : decode cX2_keepTriple 37 = .ok (.aload_n 1, 1) := by decide +kernel
theorem dX2_keepTriple_38 : decode cX2_keepTriple 38 = .ok (.getfield 53, 3) := by decide +kernel
theorem dX2_keepTriple_41 : decode cX2_keepTriple 41 = .ok (.invokevirtual 46, 3) := by decide +kernel
theorem dX2_keepTriple_44 : decode cX2_keepTriple 44 = .ok (.aload_n 0, 1) := by decide +kernel
theorem dX2_keepTriple_45 : decode cX2_keepTriple 45 = .ok (.invokevirtual 56, 3) := by decide +kernel
theorem dX2_keepTriple_48 : decode cX2_keepTriple 48 = .ok (.ireturn, 1) := by decide +kernel
set_option maxRecDepth 20000 in
theorem ggX2_keepForm_X0_reduce : GoodIn wsX2_keepForm wsX0_reduce := goodIn_r _ [7, 8, 9, 10, 11, 12, 13, 14, 15, 16, 17, 18, 19, 20, 21, 22, 23, 6, 24, 25, 26, 27, 28, 29, 30, 31, 32, 52, 53, 54, 55, 56, 57] (by decide +kernel) (by decide +kernel)
set_option maxRecDepth 20000 in
theorem gX2_keepForm_X0_reduce : GoodIn wsX2_keepForm (wsV RX2 60 RX0 yX0_reduce wsX0_reduce) := goodIn_app (goodIn_of _ (by decide +kernel)) ggX2_keepForm_X0_reduce
set_option maxRecDepth 20000 in
theorem ggX2_keepForm_X0_isWithin : GoodIn wsX2_keepForm wsX0_isWithin := goodIn_r _ [36, 8, 13, 14, 15, 16, 17, 37, 19, 38, 52, 53, 54, 55, 56, 57] (by decide +kernel) (by decide +kernel)
set_option maxRecDepth 20000 in
theorem gX2_keepForm_X0_isWithin : GoodIn wsX2_keepForm (wsV RX2 63 RX0 yX0_isWithin wsX0_isWithin) := goodIn_app (goodIn_of _ (by decide +kernel)) ggX2_keepForm_X0_isWithin
set_option maxRecDepth 20000 in
theorem ggX2_keepForm_X2_put : GoodIn wsX2_keepForm wsX2_put := goodIn_r _ [43, 44, 45, 46, 58, 59, 60] (by decide +kernel) (by decide +kernel)
set_option maxRecDepth 20000 in
theorem gX2_keepForm_X2_put : GoodIn wsX2_keepForm (wsV RX2 46 RX2 yX2_put wsX2_put) := goodIn_app (goodIn_of _ (by decide +kernel)) ggX2_keepForm_X2_put
set_option maxRecDepth 20000 in
theorem ggX2_keepForm_X2_close : GoodIn wsX2_keepForm wsX2_close := goodIn_r _ [50, 44, 51, 58, 59, 60] (by decide +kernel) (by decide +kernel)
set_option maxRecDepth 20000 in
theorem gX2_keepForm_X2_close : GoodIn wsX2_keepForm (wsV RX2 56 RX2 yX2_close wsX2_close) := goodIn_app (goodIn_of _ (by decide +kernel)) ggX2_keepForm_X2_close
theorem dX2_keepForm_0 : decode cX2_keepForm 0 = .ok (.aload_n 1, 1) := by decide +kernel
theorem dX2_keepForm_1 : decode cX2_keepForm 1 = .ok (.invokevirtual 60, 3) := by decide +kernel
theorem dX2_keepForm_4 : decode cX2_keepForm 4 = .ok (.aload_n 1, 1) := by decide +kernel
theorem dX2_keepForm_5 : decode cX2_keepForm 5 = .ok (.ldc2_w 35, 3) := by decide +kernel
theorem dX2_keepForm_8 : decode cX2_keepForm 8 = .ok (.invokevirtual 63, 3) := by decide +kernel
theorem dX2_keepForm_11 : decode cX2_keepForm 11 = .ok (.ifCond .ne 6, 3) := by decide +kernel
theorem dX2_keepForm_14 : decode cX2_keepForm 14 = .ok (.ldc 41, 2) := by decide +kernel
theorem dX2_keepForm_16 : decode cX2_keepForm 16 = .ok (.ireturn, 1) := by decide +kernel
theorem dX2_keepForm_17 : decode cX2_keepForm 17 = .ok (.aload_n 0, 1) := by decide +kernel
theorem dX2_keepForm_18 : decode cX2_keepForm 18 = .ok (.iconst 0, 1) := by decide +kernel
theorem dX2_keepForm_19 : decode cX2_keepForm 19 = .ok (.aload_n 1, 1) := by decide +kernel
theorem dX2_keepForm_20 : decode cX2_keepForm 20 = .ok (.getfield 64, 3) := by decide +kernel
theorem dX2_keepForm_23 : decode cX2_keepForm 23 = .ok (.invokevirtual 46, 3) := by decide +kernel
theorem dX2_keepForm_26 : decode cX2_keepForm 26 = .ok (.aload_n 0, 1) := by decide +kernel
theorem dX2_keepForm_27 : decode cX2_keepForm 27 = .ok (.iconst 1, 1) := by decide +kernel
theorem dX2_keepForm_28 : decode cX2_keepForm 28 = .ok (.aload_n 1, 1) := by decide +kernel
theorem dX2_keepForm_29 : decode cX2_keepForm 29 = .ok (.getfield 67, 3) := by decide +kernel
theorem dX2_keepForm_32 : decode cX2_keepForm 32 = .ok (.invokevirtual 46, 3) := by decide +kernel
theorem dX2_keepForm_35 : decode cX2_keepForm 35 = .ok (.aload_n 0, 1) := by decide +kernel
theorem dX2_keepForm_36 : decode cX2_keepForm 36 = .ok (.iconst 2, 1) := by decide +kernel
theorem dX2_keepForm_37 : decode cX2_keepForm 37 = .ok (.aload_n 1, 1) := by decide +kernel
theorem dX2_keepForm_38 : decode cX2_keepForm 38 = .ok (.getfield 70, 3) := by decide +kernel
theorem dX2_keepForm_41 : decode cX2_keepForm 41 = .ok (.invokevirtual 46, 3) := by decide +kernel
theorem dX2_keepForm_44 : decode cX2_keepForm 44 = .ok (.aload_n 0, 1) := by decide +kernel
theorem dX2_keepForm_45 : decode cX2_keepForm 45 = .ok (.iconst 3, 1) := by decide +kernel
theorem dX2_keepForm_46 : decode cX2_keepForm 46 = .ok (.aload_n 1, 1) := by decide +kernel
theorem dX2_keepForm_47 : decode cX2_keepForm 47 = .ok (.getfield 73, 3) := by decide +kernel
theorem dX2_keepForm_50 : decode cX2_keepForm 50 = .ok (.invokevirtual 46, 3) := by decide +kernel
theorem dX2_keepForm_53 : decode cX2_keepForm 53 = .ok (.aload_n 0, 1) := by decide +kernel
theorem dX2_keepForm_54 : decode cX2_keepForm 54 = .ok (.iconst 4, 1) := by decide +kernel
theorem dX2_keepForm_55 : decode cX2_keepForm 55 = .ok (.aload_n 1, 1) := by decide +kernel
theorem dX2_keepForm_56 : decode cX2_keepForm 56 = .ok (.getfield 76, 3) := by decide +kernel
theorem dX2_keepForm_59 : decode cX2_keepForm 59 = .ok (.invokevirtual 46, 3) := by decide +kernel
theorem dX2_keepForm_62 : decode cX2_keepForm 62 = .ok (.aload_n 0, 1) := by decide +kernel
theorem dX2_keepForm_63 : decode cX2_keepForm 63 = .ok (.iconst 5, 1) := by decide +kernel
theorem dX2_keepForm_64 : decode cX2_keepForm 64 = .ok (.aload_n 1, 1) := by decide +kernel
theorem dX2_keepForm_65 : decode cX2_keepForm 65 = .ok (.getfield 79, 3) := by decide +kernel
theorem dX2_keepForm_68 : decode cX2_keepForm 68 = .ok (.invokevirtual 46, 3) := by decide +kernel
theorem dX2_keepForm_71 : decode cX2_keepForm 71 = .ok (.aload_n 0, 1) := by decide +kernel
theorem dX2_keepForm_72 : decode cX2_keepForm 72 = .ok (.invokevirtual 56, 3) := by decide +kernel
theorem dX2_keepForm_75 : decode cX2_keepForm 75 = .ok (.ireturn, 1) := by decide +kernel
theorem dX2_put_0 : decode cX2_put 0 = .ok (.aload_n 0, 1) := by decide +kernel
theorem dX2_put_1 : decode cX2_put 1 = .ok (.getfield 19, 3) := by decide +kernel
theorem dX2_put_4 : decode cX2_put 4 = .ok (.bipush 60, 2) := by decide +kernel
theorem dX2_put_6 : decode cX2_put 6 = .ok (.if_icmp .ge 33, 3) := by decide +kernel
theorem dX2_put_9 : decode cX2_put 9 = .ok (.iload_n 1, 1) := by decide +kernel
theorem dX2_put_10 : decode cX2_put 10 = .ok (.ifCond .lt 29, 3) := by decide +kernel
theorem dX2_put_13 : decode cX2_put 13 = .ok (.iload_n 1, 1) := by decide +kernel
theorem dX2_put_14 : decode cX2_put 14 = .ok (.aload_n 0, 1) := by decide +kernel
theorem dX2_put_15 : decode cX2_put 15 = .ok (.getfield 9, 3) := by decide +kernel
theorem dX2_put_18 : decode cX2_put 18 = .ok (.if_icmp .ge 21, 3) := by decide +kernel
theorem dX2_put_21 : decode cX2_put 21 = .ok (.aload_n 0, 1) := by decide +kernel
theorem dX2_put_22 : decode cX2_put 22 = .ok (.getfield 15, 3) := by decide +kernel
theorem dX2_put_25 : decode cX2_put 25 = .ok (.aload_n 0, 1) := by decide +kernel
theorem dX2_put_26 : decode cX2_put 26 = .ok (.getfield 19, 3) := by decide +kernel
theorem dX2_put_29 : decode cX2_put 29 = .ok (.aload_n 0, 1) := by decide +kernel
theorem dX2_put_30 : decode cX2_put 30 = .ok (.getfield 9, 3) := by decide +kernel
theorem dX2_put_33 : decode cX2_put 33 = .ok (.imul, 1) := by decide +kernel
theorem dX2_put_34 : decode cX2_put 34 = .ok (.iload_n 1, 1) := by decide +kernel
theorem dX2_put_35 : decode cX2_put 35 = .ok (.iadd, 1) := by decide +kernel
theorem dX2_put_36 : decode cX2_put 36 = .ok (.lload_n 2, 1) := by decide +kernel
theorem dX2_put_37 : decode cX2_put 37 = .ok (.l2i, 1) := by decide +kernel
theorem dX2_put_38 : decode cX2_put 38 = .ok (.iastore, 1) := by decide +kernel
theorem dX2_put_39 : decode cX2_put 39 = .ok (.return_, 1) := by decide +kernel
theorem dX2_close_0 : decode cX2_close 0 = .ok (.aload_n 0, 1) := by decide +kernel
theorem dX2_close_1 : decode cX2_close 1 = .ok (.getfield 19, 3) := by decide +kernel
theorem dX2_close_4 : decode cX2_close 4 = .ok (.bipush 60, 2) := by decide +kernel
theorem dX2_close_6 : decode cX2_close 6 = .ok (.if_icmp .lt 6, 3) := by decide +kernel
theorem dX2_close_9 : decode cX2_close 9 = .ok (.ldc 82, 2) := by decide +kernel
theorem dX2_close_11 : decode cX2_close 11 = .ok (.ireturn, 1) := by decide +kernel
theorem dX2_close_12 : decode cX2_close 12 = .ok (.aload_n 0, 1) := by decide +kernel
theorem dX2_close_13 : decode cX2_close 13 = .ok (.dup, 1) := by decide +kernel
theorem dX2_close_14 : decode cX2_close 14 = .ok (.getfield 19, 3) := by decide +kernel
theorem dX2_close_17 : decode cX2_close 17 = .ok (.iconst 1, 1) := by decide +kernel
theorem dX2_close_18 : decode cX2_close 18 = .ok (.iadd, 1) := by decide +kernel
theorem dX2_close_19 : decode cX2_close 19 = .ok (.putfield 19, 3) := by decide +kernel
theorem dX2_close_22 : decode cX2_close 22 = .ok (.aload_n 0, 1) := by decide +kernel
theorem dX2_close_23 : decode cX2_close 23 = .ok (.getfield 19, 3) := by decide +kernel
theorem dX2_close_26 : decode cX2_close 26 = .ok (.iconst 1, 1) := by decide +kernel
theorem dX2_close_27 : decode cX2_close 27 = .ok (.isub, 1) := by decide +kernel
theorem dX2_close_28 : decode cX2_close 28 = .ok (.ireturn, 1) := by decide +kernel
