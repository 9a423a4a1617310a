set_option maxRecDepth 20000 in
theorem ggX4_keepTripleUnlessZero_X2_keepTriple : GoodIn wsX4_keepTripleUnlessZero wsX2_keepTriple := goodIn_r _ [15, 16, 17, 18, 19, 20, 6, 21, 8, 22, 23, 24, 25, 9, 10, 26, 27, 28, 29, 30, 31, 32, 33, 34, 35, 36, 37, 38, 39, 40, 41, 14, 42, 43, 44, 45, 46, 47, 48, 49, 50, 65, 66, 67, 68, 69, 70] (by decide +kernel) (by decide +kernel)
set_option maxRecDepth 20000 in
theorem gX4_keepTripleUnlessZero_X2_keepTriple : GoodIn wsX4_keepTripleUnlessZero (wsV RX4 241 RX2 yX2_keepTriple wsX2_keepTriple) := goodIn_app (goodIn_of _ (by decide +kernel)) ggX4_keepTripleUnlessZero_X2_keepTriple
theorem dX4_keepTripleUnlessZero_0 : decode cX4_keepTripleUnlessZero 0 = .ok (.aload_n 0, 1) := by decide +kernel
theorem dX4_keepTripleUnlessZero_1 : decode cX4_keepTripleUnlessZero 1 = .ok (.getfield 47, 3) := by decide +kernel
theorem dX4_keepTripleUnlessZero_4 : decode cX4_keepTripleUnlessZero 4 = .ok (.invokevirtual 240, 3) := by decide +kernel
theorem dX4_keepTripleUnlessZero_7 : decode cX4_keepTripleUnlessZero 7 = .ok (.ifCond .eq 8, 3) := by decide +kernel
theorem dX4_keepTripleUnlessZero_10 : decode cX4_keepTripleUnlessZero 10 = .ok (.ldc 138, 2) := by decide +kernel
theorem dX4_keepTripleUnlessZero_12 : decode cX4_keepTripleUnlessZero 12 = .ok (.goto 11, 3) := by decide +kernel
theorem dX4_keepTripleUnlessZero_15 : decode cX4_keepTripleUnlessZero 15 = .ok (.aload_n 1, 1) := by decide +kernel
theorem dX4_keepTripleUnlessZero_16 : decode cX4_keepTripleUnlessZero 16 = .ok (.aload_n 0, 1) := by decide +kernel
theorem dX4_keepTripleUnlessZero_17 : decode cX4_keepTripleUnlessZero 17 = .ok (.getfield 47, 3) := by decide +kernel
theorem dX4_keepTripleUnlessZero_20 : decode cX4_keepTripleUnlessZero 20 = .ok (.invokevirtual 241, 3) := by decide +kernel
theorem dX4_keepTripleUnlessZero_23 : decode cX4_keepTripleUnlessZero 23 = .ok (.ireturn, 1) := by decide +kernel
set_option maxRecDepth 20000 in
theorem ggX4_keepFormUnlessZero_X0_isZero : GoodIn wsX4_keepFormUnlessZero wsX0_isZero := goodIn_r _ [8, 9, 10, 11, 12, 13, 14, 77, 78, 79, 80, 81, 82] (by decide +kernel) (by decide +kernel)
set_option maxRecDepth 20000 in
theorem gX4_keepFormUnlessZero_X0_isZero : GoodIn wsX4_keepFormUnlessZero (wsV RX4 87 RX0 yX0_isZero wsX0_isZero) := goodIn_app (goodIn_of _ (by decide +kernel)) ggX4_keepFormUnlessZero_X0_isZero
set_option maxRecDepth 20000 in
theorem ggX4_keepFormUnlessZero_X2_keepForm : GoodIn wsX4_keepFormUnlessZero wsX2_keepForm := goodIn_r _ [19, 20, 21, 22, 23, 24, 7, 25, 9, 26, 27, 28, 29, 10, 11, 12, 13, 14, 30, 31, 32, 33, 34, 35, 36, 37, 38, 39, 40, 41, 42, 43, 44, 45, 46, 47, 48, 49, 50, 51, 52, 53, 18, 54, 55, 56, 57, 58, 59, 60, 61, 62, 77, 78, 79, 80, 81, 82, 83, 84, 85] (by decide +kernel) (by decide +kernel)
set_option maxRecDepth 20000 in
theorem gX4_keepFormUnlessZero_X2_keepForm : GoodIn wsX4_keepFormUnlessZero (wsV RX4 92 RX2 yX2_keepForm wsX2_keepForm) := goodIn_app (goodIn_of _ (by decide +kernel)) ggX4_keepFormUnlessZero_X2_keepForm
theorem dX4_keepFormUnlessZero_0 : decode cX4_keepFormUnlessZero 0 = .ok (.aload_n 0, 1) := by decide +kernel
theorem dX4_keepFormUnlessZero_1 : decode cX4_keepFormUnlessZero 1 = .ok (.getfield 63, 3) := by decide +kernel
theorem dX4_keepFormUnlessZero_4 : decode cX4_keepFormUnlessZero 4 = .ok (.invokevirtual 87, 3) := by decide +kernel
theorem dX4_keepFormUnlessZero_7 : decode cX4_keepFormUnlessZero 7 = .ok (.ifCond .eq 8, 3) := by decide +kernel
theorem dX4_keepFormUnlessZero_10 : decode cX4_keepFormUnlessZero 10 = .ok (.ldc 138, 2) := by decide +kernel
theorem dX4_keepFormUnlessZero_12 : decode cX4_keepFormUnlessZero 12 = .ok (.goto 14, 3) := by decide +kernel
theorem dX4_keepFormUnlessZero_15 : decode cX4_keepFormUnlessZero 15 = .ok (.aload_n 0, 1) := by decide +kernel
theorem dX4_keepFormUnlessZero_16 : decode cX4_keepFormUnlessZero 16 = .ok (.getfield 21, 3) := by decide +kernel
theorem dX4_keepFormUnlessZero_19 : decode cX4_keepFormUnlessZero 19 = .ok (.aload_n 0, 1) := by decide +kernel
theorem dX4_keepFormUnlessZero_20 : decode cX4_keepFormUnlessZero 20 = .ok (.getfield 63, 3) := by decide +kernel
theorem dX4_keepFormUnlessZero_23 : decode cX4_keepFormUnlessZero 23 = .ok (.invokevirtual 92, 3) := by decide +kernel
theorem dX4_keepFormUnlessZero_26 : decode cX4_keepFormUnlessZero 26 = .ok (.ireturn, 1) := by decide +kernel
set_option maxRecDepth 20000 in
theorem ggX4_twoCornersAreSame_X2_areSame : GoodIn wsX4_twoCornersAreSame wsX2_areSame := goodIn_r _ [7, 8, 9, 10, 11, 6, 12, 13, 14, 15, 16, 17, 18, 33, 34, 35] (by decide +kernel) (by decide +kernel)
set_option maxRecDepth 20000 in
theorem gX4_twoCornersAreSame_X2_areSame : GoodIn wsX4_twoCornersAreSame (wsV RX4 249 RX2 yX2_areSame wsX2_areSame) := goodIn_app (goodIn_of _ (by decide +kernel)) ggX4_twoCornersAreSame_X2_areSame
theorem dX4_twoCornersAreSame_0 : decode cX4_twoCornersAreSame 0 = .ok (.iconst 0, 1) := by decide +kernel
theorem dX4_twoCornersAreSame_1 : decode cX4_twoCornersAreSame 1 = .ok (.istore_n 1, 1) := by decide +kernel
theorem dX4_twoCornersAreSame_2 : decode cX4_twoCornersAreSame 2 = .ok (.iload_n 1, 1) := by decide +kernel
theorem dX4_twoCornersAreSame_3 : decode cX4_twoCornersAreSame 3 = .ok (.iconst 5, 1) := by decide +kernel
theorem dX4_twoCornersAreSame_4 : decode cX4_twoCornersAreSame 4 = .ok (.if_icmp .ge 48, 3) := by decide +kernel
theorem dX4_twoCornersAreSame_7 : decode cX4_twoCornersAreSame 7 = .ok (.iload_n 1, 1) := by decide +kernel
theorem dX4_twoCornersAreSame_8 : decode cX4_twoCornersAreSame 8 = .ok (.iconst 1, 1) := by decide +kernel
theorem dX4_twoCornersAreSame_9 : decode cX4_twoCornersAreSame 9 = .ok (.iadd, 1) := by decide +kernel
theorem dX4_twoCornersAreSame_10 : decode cX4_twoCornersAreSame 10 = .ok (.istore_n 2, 1) := by decide +kernel
theorem dX4_twoCornersAreSame_11 : decode cX4_twoCornersAreSame 11 = .ok (.iload_n 2, 1) := by decide +kernel
theorem dX4_twoCornersAreSame_12 : decode cX4_twoCornersAreSame 12 = .ok (.iconst 5, 1) := by decide +kernel
theorem dX4_twoCornersAreSame_13 : decode cX4_twoCornersAreSame 13 = .ok (.if_icmp .ge 33, 3) := by decide +kernel
theorem dX4_twoCornersAreSame_16 : decode cX4_twoCornersAreSame 16 = .ok (.aload_n 0, 1) := by decide +kernel
theorem dX4_twoCornersAreSame_17 : decode cX4_twoCornersAreSame 17 = .ok (.getfield 14, 3) := by decide +kernel
theorem dX4_twoCornersAreSame_20 : decode cX4_twoCornersAreSame 20 = .ok (.aload_n 0, 1) := by decide +kernel
theorem dX4_twoCornersAreSame_21 : decode cX4_twoCornersAreSame 21 = .ok (.getfield 66, 3) := by decide +kernel
theorem dX4_twoCornersAreSame_24 : decode cX4_twoCornersAreSame 24 = .ok (.iload_n 1, 1) := by decide +kernel
theorem dX4_twoCornersAreSame_25 : decode cX4_twoCornersAreSame 25 = .ok (.iaload, 1) := by decide +kernel
theorem dX4_twoCornersAreSame_26 : decode cX4_twoCornersAreSame 26 = .ok (.aload_n 0, 1) := by decide +kernel
theorem dX4_twoCornersAreSame_27 : decode cX4_twoCornersAreSame 27 = .ok (.getfield 66, 3) := by decide +kernel
theorem dX4_twoCornersAreSame_30 : decode cX4_twoCornersAreSame 30 = .ok (.iload_n 2, 1) := by decide +kernel
theorem dX4_twoCornersAreSame_31 : decode cX4_twoCornersAreSame 31 = .ok (.iaload, 1) := by decide +kernel
theorem dX4_twoCornersAreSame_32 : decode cX4_twoCornersAreSame 32 = .ok (.invokevirtual 249, 3) := by decide +kernel
theorem dX4_twoCornersAreSame_35 : decode cX4_twoCornersAreSame 35 = .ok (.ifCond .eq 5, 3) := by decide +kernel
theorem dX4_twoCornersAreSame_38 : decode cX4_twoCornersAreSame 38 = .ok (.iconst 1, 1) := by decide +kernel
theorem dX4_twoCornersAreSame_39 : decode cX4_twoCornersAreSame 39 = .ok (.ireturn, 1) := by decide +kernel
theorem dX4_twoCornersAreSame_40 : decode cX4_twoCornersAreSame 40 = .ok (.iinc 2 1, 3) := by decide +kernel
theorem dX4_twoCornersAreSame_43 : decode cX4_twoCornersAreSame 43 = .ok (.goto (-32), 3) := by decide +kernel
theorem dX4_twoCornersAreSame_46 : decode cX4_twoCornersAreSame 46 = .ok (.iinc 1 1, 3) := by decide +kernel
theorem dX4_twoCornersAreSame_49 : decode cX4_twoCornersAreSame 49 = .ok (.goto (-47), 3) := by decide +kernel
theorem dX4_twoCornersAreSame_52 : decode cX4_twoCornersAreSame 52 = .ok (.iconst 0, 1) := by decide +kernel
theorem dX4_twoCornersAreSame_53 : decode cX4_twoCornersAreSame 53 = .ok (.ireturn, 1) := by decide +kernel
set_option maxRecDepth 20000 in
theorem ggX4_fourCornersAreInLine_X4_cornerAfter : GoodIn wsX4_fourCornersAreInLine wsX4_cornerAfter := goodIn_r _ [6, 7, 8, 9, 10, 11, 55, 56, 57, 58, 59, 60, 61, 62, 63, 64, 65, 66, 67, 68] (by decide +kernel) (by decide +kernel)
set_option maxRecDepth 20000 in
theorem gX4_fourCornersAreInLine_X4_cornerAfter : GoodIn wsX4_fourCornersAreInLine (wsV RX4 253 RX4 yX4_cornerAfter wsX4_cornerAfter) := goodIn_app (goodIn_of _ (by decide +kernel)) ggX4_fourCornersAreInLine_X4_cornerAfter
set_option maxRecDepth 20000 in
theorem ggX4_fourCornersAreInLine_X4_setLineOf : GoodIn wsX4_fourCornersAreInLine wsX4_setLineOf := goodIn_r _ [15, 16, 17, 18, 19, 20, 21, 22, 23, 24, 25, 26, 27, 28, 29, 30, 31, 32, 33, 34, 35, 36, 37, 38, 39, 40, 41, 42, 43, 44, 45, 46, 55, 56, 57, 58, 59, 60, 61, 62, 63, 64, 65, 66, 67, 68, 69, 70, 71, 72, 73, 74] (by decide +kernel) (by decide +kernel)
set_option maxRecDepth 20000 in
theorem gX4_fourCornersAreInLine_X4_setLineOf : GoodIn wsX4_fourCornersAreInLine (wsV RX4 256 RX4 yX4_setLineOf wsX4_setLineOf) := goodIn_app (goodIn_of _ (by decide +kernel)) ggX4_fourCornersAreInLine_X4_setLineOf
set_option maxRecDepth 20000 in
theorem ggX4_fourCornersAreInLine_X4_isOnSecond : GoodIn wsX4_fourCornersAreInLine wsX4_isOnSecond := goodIn_r _ [50, 16, 17, 1, 19, 20, 21, 22, 23, 24, 25, 26, 27, 28, 29, 30, 31, 32, 33, 34, 35, 36, 37, 38, 39, 40, 41, 42, 51, 52, 53, 54, 55, 56, 57, 58, 59, 60, 61, 62, 63, 64, 65, 66, 67, 68, 69, 70, 71, 72, 73, 74] (by decide +kernel) (by decide +kernel)
set_option maxRecDepth 20000 in
theorem gX4_fourCornersAreInLine_X4_isOnSecond : GoodIn wsX4_fourCornersAreInLine (wsV RX4 260 RX4 yX4_isOnSecond wsX4_isOnSecond) := goodIn_app (goodIn_of _ (by decide +kernel)) ggX4_fourCornersAreInLine_X4_isOnSecond
theorem dX4_fourCornersAreInLine_0 : decode cX4_fourCornersAreInLine 0 = .ok (.iconst 0, 1) := by decide +kernel
theorem dX4_fourCornersAreInLine_1 : decode cX4_fourCornersAreInLine 1 = .ok (.istore_n 1, 1) := by decide +kernel
theorem dX4_fourCornersAreInLine_2 : decode cX4_fourCornersAreInLine 2 = .ok (.iload_n 1, 1) := by decide +kernel
theorem dX4_fourCornersAreInLine_3 : decode cX4_fourCornersAreInLine 3 = .ok (.iconst 5, 1) := by decide +kernel
theorem dX4_fourCornersAreInLine_4 : decode cX4_fourCornersAreInLine 4 = .ok (.if_icmp .ge 57, 3) := by decide +kernel
theorem dX4_fourCornersAreInLine_7 : decode cX4_fourCornersAreInLine 7 = .ok (.aload_n 0, 1) := by decide +kernel
theorem dX4_fourCornersAreInLine_8 : decode cX4_fourCornersAreInLine 8 = .ok (.aload_n 0, 1) := by decide +kernel
theorem dX4_fourCornersAreInLine_9 : decode cX4_fourCornersAreInLine 9 = .ok (.getfield 41, 3) := by decide +kernel
theorem dX4_fourCornersAreInLine_12 : decode cX4_fourCornersAreInLine 12 = .ok (.aload_n 0, 1) := by decide +kernel
theorem dX4_fourCornersAreInLine_13 : decode cX4_fourCornersAreInLine 13 = .ok (.iload_n 1, 1) := by decide +kernel
theorem dX4_fourCornersAreInLine_14 : decode cX4_fourCornersAreInLine 14 = .ok (.iconst 1, 1) := by decide +kernel
theorem dX4_fourCornersAreInLine_15 : decode cX4_fourCornersAreInLine 15 = .ok (.invokevirtual 253, 3) := by decide +kernel
theorem dX4_fourCornersAreInLine_18 : decode cX4_fourCornersAreInLine 18 = .ok (.aload_n 0, 1) := by decide +kernel
theorem dX4_fourCornersAreInLine_19 : decode cX4_fourCornersAreInLine 19 = .ok (.iload_n 1, 1) := by decide +kernel
theorem dX4_fourCornersAreInLine_20 : decode cX4_fourCornersAreInLine 20 = .ok (.iconst 2, 1) := by decide +kernel
theorem dX4_fourCornersAreInLine_21 : decode cX4_fourCornersAreInLine 21 = .ok (.invokevirtual 253, 3) := by decide +kernel
theorem dX4_fourCornersAreInLine_24 : decode cX4_fourCornersAreInLine 24 = .ok (.invokevirtual 256, 3) := by decide +kernel
theorem dX4_fourCornersAreInLine_27 : decode cX4_fourCornersAreInLine 27 = .ok (.aload_n 0, 1) := by decide +kernel
theorem dX4_fourCornersAreInLine_28 : decode cX4_fourCornersAreInLine 28 = .ok (.aload_n 0, 1) := by decide +kernel
theorem dX4_fourCornersAreInLine_29 : decode cX4_fourCornersAreInLine 29 = .ok (.iload_n 1, 1) := by decide +kernel
theorem dX4_fourCornersAreInLine_30 : decode cX4_fourCornersAreInLine 30 = .ok (.iconst 3, 1) := by decide +kernel
theorem dX4_fourCornersAreInLine_31 : decode cX4_fourCornersAreInLine 31 = .ok (.invokevirtual 253, 3) := by decide +kernel
theorem dX4_fourCornersAreInLine_34 : decode cX4_fourCornersAreInLine 34 = .ok (.invokevirtual 260, 3) := by decide +kernel
theorem dX4_fourCornersAreInLine_37 : decode cX4_fourCornersAreInLine 37 = .ok (.ifCond .eq 18, 3) := by decide +kernel
theorem dX4_fourCornersAreInLine_40 : decode cX4_fourCornersAreInLine 40 = .ok (.aload_n 0, 1) := by decide +kernel
theorem dX4_fourCornersAreInLine_41 : decode cX4_fourCornersAreInLine 41 = .ok (.aload_n 0, 1) := by decide +kernel
theorem dX4_fourCornersAreInLine_42 : decode cX4_fourCornersAreInLine 42 = .ok (.iload_n 1, 1) := by decide +kernel
theorem dX4_fourCornersAreInLine_43 : decode cX4_fourCornersAreInLine 43 = .ok (.iconst 4, 1) := by decide +kernel
theorem dX4_fourCornersAreInLine_44 : decode cX4_fourCornersAreInLine 44 = .ok (.invokevirtual 253, 3) := by decide +kernel
theorem dX4_fourCornersAreInLine_47 : decode cX4_fourCornersAreInLine 47 = .ok (.invokevirtual 260, 3) := by decide +kernel
theorem dX4_fourCornersAreInLine_50 : decode cX4_fourCornersAreInLine 50 = .ok (.ifCond .eq 5, 3) := by decide +kernel
theorem dX4_fourCornersAreInLine_53 : decode cX4_fourCornersAreInLine 53 = .ok (.iconst 1, 1) := by decide +kernel
theorem dX4_fourCornersAreInLine_54 : decode cX4_fourCornersAreInLine 54 = .ok (.ireturn, 1) := by decide +kernel
theorem dX4_fourCornersAreInLine_55 : decode cX4_fourCornersAreInLine 55 = .ok (.iinc 1 1, 3) := by decide +kernel
theorem dX4_fourCornersAreInLine_58 : decode cX4_fourCornersAreInLine 58 = .ok (.goto (-56), 3) := by decide +kernel
theorem dX4_fourCornersAreInLine_61 : decode cX4_fourCornersAreInLine 61 = .ok (.iconst 0, 1) := by decide +kernel
theorem dX4_fourCornersAreInLine_62 : decode cX4_fourCornersAreInLine 62 = .ok (.ireturn, 1) := by decide +kernel
set_option maxRecDepth 20000 in
theorem ggX4_cornerAfter_J9_floorMod_7cf53 : GoodIn wsX4_cornerAfter wsJ9_floorMod_7cf53 := goodIn_r _ [5] (by decide +kernel) (by decide +kernel)
set_option maxRecDepth 20000 in
theorem gX4_cornerAfter_J9_floorMod_7cf53 : GoodIn wsX4_cornerAfter (va_wsS RX4 263 yJ9_floorMod_7cf53 wsJ9_floorMod_7cf53) := goodIn_app (goodIn_of _ (by decide +kernel)) ggX4_cornerAfter_J9_floorMod_7cf53
theorem dX4_cornerAfter_0 : decode cX4_cornerAfter 0 = .ok (.aload_n 0, 1) := by decide +kernel
theorem dX4_cornerAfter_1 : decode cX4_cornerAfter 1 = .ok (.getfield 66, 3) := by decide +kernel
theorem dX4_cornerAfter_4 : decode cX4_cornerAfter 4 = .ok (.iload_n 1, 1) := by decide +kernel
theorem dX4_cornerAfter_5 : decode cX4_cornerAfter 5 = .ok (.iload_n 2, 1) := by decide +kernel
theorem dX4_cornerAfter_6 : decode cX4_cornerAfter 6 = .ok (.iadd, 1) := by decide +kernel
theorem dX4_cornerAfter_7 : decode cX4_cornerAfter 7 = .ok (.iconst 5, 1) := by decide +kernel
theorem dX4_cornerAfter_8 : decode cX4_cornerAfter 8 = .ok (.invokestatic 263, 3) := by decide +kernel
theorem dX4_cornerAfter_11 : decode cX4_cornerAfter 11 = .ok (.iaload, 1) := by decide +kernel
theorem dX4_cornerAfter_12 : decode cX4_cornerAfter 12 = .ok (.ireturn, 1) := by decide +kernel
set_option maxRecDepth 20000 in
theorem ggX4_isOnSecond_X3_read : GoodIn wsX4_isOnSecond wsX3_read := goodIn_r _ [8, 9, 10, 11, 12, 13, 14, 15, 16, 17, 18, 19, 20, 21, 22, 23, 7, 24, 25, 26, 27, 46, 47, 48, 49, 50, 51] (by decide +kernel) (by decide +kernel)
set_option maxRecDepth 20000 in
theorem gX4_isOnSecond_X3_read : GoodIn wsX4_isOnSecond (wsV RX4 120 RX3 yX3_read wsX3_read) := goodIn_app (goodIn_of _ (by decide +kernel)) ggX4_isOnSecond_X3_read
set_option maxRecDepth 20000 in
theorem ggX4_isOnSecond_X3_times : GoodIn wsX4_isOnSecond wsX3_times := goodIn_r _ [31, 25, 26, 27, 49, 50, 51] (by decide +kernel) (by decide +kernel)
set_option maxRecDepth 20000 in
theorem gX4_isOnSecond_X3_times : GoodIn wsX4_isOnSecond (wsV RX4 124 RX3 yX3_times wsX3_times) := goodIn_app (goodIn_of _ (by decide +kernel)) ggX4_isOnSecond_X3_times
theorem dX4_isOnSecond_0 : decode cX4_isOnSecond 0 = .ok (.aload_n 0, 1) := by decide +kernel
theorem dX4_isOnSecond_1 : decode cX4_isOnSecond 1 = .ok (.getfield 37, 3) := by decide +kernel
theorem dX4_isOnSecond_4 : decode cX4_isOnSecond 4 = .ok (.aload_n 0, 1) := by decide +kernel
theorem dX4_isOnSecond_5 : decode cX4_isOnSecond 5 = .ok (.getfield 14, 3) := by decide +kernel
theorem dX4_isOnSecond_8 : decode cX4_isOnSecond 8 = .ok (.iload_n 1, 1) := by decide +kernel
theorem dX4_isOnSecond_9 : decode cX4_isOnSecond 9 = .ok (.invokevirtual 120, 3) := by decide +kernel
theorem dX4_isOnSecond_12 : decode cX4_isOnSecond 12 = .ok (.aload_n 0, 1) := by decide +kernel
theorem dX4_isOnSecond_13 : decode cX4_isOnSecond 13 = .ok (.getfield 41, 3) := by decide +kernel
theorem dX4_isOnSecond_16 : decode cX4_isOnSecond 16 = .ok (.aload_n 0, 1) := by decide +kernel
theorem dX4_isOnSecond_17 : decode cX4_isOnSecond 17 = .ok (.getfield 37, 3) := by decide +kernel
theorem dX4_isOnSecond_20 : decode cX4_isOnSecond 20 = .ok (.invokevirtual 124, 3) := by decide +kernel
theorem dX4_isOnSecond_23 : decode cX4_isOnSecond 23 = .ok (.lconst 0, 1) := by decide +kernel
theorem dX4_isOnSecond_24 : decode cX4_isOnSecond 24 = .ok (.lcmp, 1) := by decide +kernel
theorem dX4_isOnSecond_25 : decode cX4_isOnSecond 25 = .ok (.ifCond .ne 7, 3) := by decide +kernel
theorem dX4_isOnSecond_28 : decode cX4_isOnSecond 28 = .ok (.iconst 1, 1) := by decide +kernel
theorem dX4_isOnSecond_29 : decode cX4_isOnSecond 29 = .ok (.goto 4, 3) := by decide +kernel
theorem dX4_isOnSecond_32 : decode cX4_isOnSecond 32 = .ok (.iconst 0, 1) := by decide +kernel
theorem dX4_isOnSecond_33 : decode cX4_isOnSecond 33 = .ok (.ireturn, 1) := by decide +kernel
set_option maxRecDepth 20000 in
theorem ggX4_cornersAreSmall_X3_read : GoodIn wsX4_cornersAreSmall wsX3_read := goodIn_r _ [9, 10, 11, 12, 13, 14, 15, 16, 17, 18, 19, 20, 21, 22, 23, 24, 8, 25, 26, 27, 28, 50, 51, 52, 53, 54, 55] (by decide +kernel) (by decide +kernel)
set_option maxRecDepth 20000 in
theorem gX4_cornersAreSmall_X3_read : GoodIn wsX4_cornersAreSmall (wsV RX4 120 RX3 yX3_read wsX3_read) := goodIn_app (goodIn_of _ (by decide +kernel)) ggX4_cornersAreSmall_X3_read
set_option maxRecDepth 20000 in
theorem ggX4_cornersAreSmall_X3_isWithin : GoodIn wsX4_cornersAreSmall wsX3_isWithin := goodIn_r _ [32, 26, 27, 28, 33, 34, 35, 53, 54, 55] (by decide +kernel) (by decide +kernel)
set_option maxRecDepth 20000 in
theorem gX4_cornersAreSmall_X3_isWithin : GoodIn wsX4_cornersAreSmall (wsV RX4 239 RX3 yX3_isWithin wsX3_isWithin) := goodIn_app (goodIn_of _ (by decide +kernel)) ggX4_cornersAreSmall_X3_isWithin
theorem dX4_cornersAreSmall_0 : decode cX4_cornersAreSmall 0 = .ok (.iconst 0, 1) := by decide +kernel
theorem dX4_cornersAreSmall_1 : decode cX4_cornersAreSmall 1 = .ok (.istore_n 1, 1) := by decide +kernel
theorem dX4_cornersAreSmall_2 : decode cX4_cornersAreSmall 2 = .ok (.iload_n 1, 1) := by decide +kernel
theorem dX4_cornersAreSmall_3 : decode cX4_cornersAreSmall 3 = .ok (.iconst 5, 1) := by decide +kernel
theorem dX4_cornersAreSmall_4 : decode cX4_cornersAreSmall 4 = .ok (.if_icmp .ge 41, 3) := by decide +kernel
theorem dX4_cornersAreSmall_7 : decode cX4_cornersAreSmall 7 = .ok (.aload_n 0, 1) := by decide +kernel
theorem dX4_cornersAreSmall_8 : decode cX4_cornersAreSmall 8 = .ok (.getfield 37, 3) := by decide +kernel
theorem dX4_cornersAreSmall_11 : decode cX4_cornersAreSmall 11 = .ok (.aload_n 0, 1) := by decide +kernel
theorem dX4_cornersAreSmall_12 : decode cX4_cornersAreSmall 12 = .ok (.getfield 14, 3) := by decide +kernel
theorem dX4_cornersAreSmall_15 : decode cX4_cornersAreSmall 15 = .ok (.aload_n 0, 1) := by decide +kernel
theorem dX4_cornersAreSmall_16 : decode cX4_cornersAreSmall 16 = .ok (.getfield 66, 3) := by decide +kernel
theorem dX4_cornersAreSmall_19 : decode cX4_cornersAreSmall 19 = .ok (.iload_n 1, 1) := by decide +kernel
theorem dX4_cornersAreSmall_20 : decode cX4_cornersAreSmall 20 = .ok (.iaload, 1) := by decide +kernel
theorem dX4_cornersAreSmall_21 : decode cX4_cornersAreSmall 21 = .ok (.invokevirtual 120, 3) := by decide +kernel
theorem dX4_cornersAreSmall_24 : decode cX4_cornersAreSmall 24 = .ok (.aload_n 0, 1) := by decide +kernel
theorem dX4_cornersAreSmall_25 : decode cX4_cornersAreSmall 25 = .ok (.getfield 37, 3) := by decide +kernel
theorem dX4_cornersAreSmall_28 : decode cX4_cornersAreSmall 28 = .ok (.ldc2_w 268, 3) := by decide +kernel
theorem dX4_cornersAreSmall_31 : decode cX4_cornersAreSmall 31 = .ok (.invokevirtual 239, 3) := by decide +kernel
theorem dX4_cornersAreSmall_34 : decode cX4_cornersAreSmall 34 = .ok (.ifCond .ne 5, 3) := by decide +kernel
theorem dX4_cornersAreSmall_37 : decode cX4_cornersAreSmall 37 = .ok (.iconst 0, 1) := by decide +kernel
theorem dX4_cornersAreSmall_38 : decode cX4_cornersAreSmall 38 = .ok (.ireturn, 1) := by decide +kernel
theorem dX4_cornersAreSmall_39 : decode cX4_cornersAreSmall 39 = .ok (.iinc 1 1, 3) := by decide +kernel
theorem dX4_cornersAreSmall_42 : decode cX4_cornersAreSmall 42 = .ok (.goto (-40), 3) := by decide +kernel
theorem dX4_cornersAreSmall_45 : decode cX4_cornersAreSmall 45 = .ok (.iconst 1, 1) := by decide +kernel
theorem dX4_cornersAreSmall_46 : decode cX4_cornersAreSmall 46 = .ok (.ireturn, 1) := by decide +kernel
set_option maxRecDepth 20000 in
theorem ggX4_setLineOf_X3_read : GoodIn wsX4_setLineOf wsX3_read := goodIn_r _ [8, 9, 10, 11, 12, 13, 14, 15, 16, 17, 18, 19, 20, 21, 22, 23, 7, 24, 25, 26, 27, 46, 47, 48, 49, 50, 51] (by decide +kernel) (by decide +kernel)
set_option maxRecDepth 20000 in
theorem gX4_setLineOf_X3_read : GoodIn wsX4_setLineOf (wsV RX4 120 RX3 yX3_read wsX3_read) := goodIn_app (goodIn_of _ (by decide +kernel)) ggX4_setLineOf_X3_read
set_option maxRecDepth 20000 in
theorem ggX4_setLineOf_X3_setAcross : GoodIn wsX4_setLineOf wsX3_setAcross := goodIn_r _ [31, 26, 27, 25, 21, 22, 23, 7, 24, 49, 50, 51] (by decide +kernel) (by decide +kernel)
set_option maxRecDepth 20000 in
theorem gX4_setLineOf_X3_setAcross : GoodIn wsX4_setLineOf (wsV RX4 245 RX3 yX3_setAcross wsX3_setAcross) := goodIn_app (goodIn_of _ (by decide +kernel)) ggX4_setLineOf_X3_setAcross
theorem dX4_setLineOf_0 : decode cX4_setLineOf 0 = .ok (.aload_n 0, 1) := by decide +kernel
theorem dX4_setLineOf_1 : decode cX4_setLineOf 1 = .ok (.getfield 37, 3) := by decide +kernel
theorem dX4_setLineOf_4 : decode cX4_setLineOf 4 = .ok (.aload_n 0, 1) := by decide +kernel
theorem dX4_setLineOf_5 : decode cX4_setLineOf 5 = .ok (.getfield 14, 3) := by decide +kernel
theorem dX4_setLineOf_8 : decode cX4_setLineOf 8 = .ok (.iload_n 2, 1) := by decide +kernel
theorem dX4_setLineOf_9 : decode cX4_setLineOf 9 = .ok (.invokevirtual 120, 3) := by decide +kernel
theorem dX4_setLineOf_12 : decode cX4_setLineOf 12 = .ok (.aload_n 0, 1) := by decide +kernel
theorem dX4_setLineOf_13 : decode cX4_setLineOf 13 = .ok (.getfield 47, 3) := by decide +kernel
theorem dX4_setLineOf_16 : decode cX4_setLineOf 16 = .ok (.aload_n 0, 1) := by decide +kernel
theorem dX4_setLineOf_17 : decode cX4_setLineOf 17 = .ok (.getfield 14, 3) := by decide +kernel
theorem dX4_setLineOf_20 : decode cX4_setLineOf 20 = .ok (.iload_n 3, 1) := by decide +kernel
theorem dX4_setLineOf_21 : decode cX4_setLineOf 21 = .ok (.invokevirtual 120, 3) := by decide +kernel
theorem dX4_setLineOf_24 : decode cX4_setLineOf 24 = .ok (.aload_n 1, 1) := by decide +kernel
theorem dX4_setLineOf_25 : decode cX4_setLineOf 25 = .ok (.aload_n 0, 1) := by decide +kernel
theorem dX4_setLineOf_26 : decode cX4_setLineOf 26 = .ok (.getfield 37, 3) := by decide +kernel
theorem dX4_setLineOf_29 : decode cX4_setLineOf 29 = .ok (.aload_n 0, 1) := by decide +kernel
theorem dX4_setLineOf_30 : decode cX4_setLineOf 30 = .ok (.getfield 47, 3) := by decide +kernel
theorem dX4_setLineOf_33 : decode cX4_setLineOf 33 = .ok (.invokevirtual 245, 3) := by decide +kernel
theorem dX4_setLineOf_36 : decode cX4_setLineOf 36 = .ok (.return_, 1) := by decide +kernel
set_option maxRecDepth 20000 in
theorem ggX4_setLinePair_X4_setLineOf : GoodIn wsX4_setLinePair wsX4_setLineOf := goodIn_r _ [7, 8, 9, 10, 11, 12, 13, 14, 15, 16, 17, 18, 19, 20, 21, 22, 23, 24, 25, 26, 27, 28, 29, 30, 31, 32, 33, 34, 35, 36, 37, 38, 58, 59, 60, 61, 62, 63, 64, 65, 66, 67, 68, 69, 70, 71, 72, 73, 74, 75, 76, 77] (by decide +kernel) (by decide +kernel)
set_option maxRecDepth 20000 in
theorem gX4_setLinePair_X4_setLineOf : GoodIn wsX4_setLinePair (wsV RX4 256 RX4 yX4_setLineOf wsX4_setLineOf) := goodIn_app (goodIn_of _ (by decide +kernel)) ggX4_setLinePair_X4_setLineOf
set_option maxRecDepth 20000 in
theorem ggX4_setLinePair_X0_setLines : GoodIn wsX4_setLinePair wsX0_setLines := goodIn_r _ [43, 44, 45, 46, 42, 47, 48, 49, 50, 51, 52, 53, 54, 55, 56, 57, 75, 76, 77, 78, 79, 80, 81, 82, 83] (by decide +kernel) (by decide +kernel)
set_option maxRecDepth 20000 in
theorem gX4_setLinePair_X0_setLines : GoodIn wsX4_setLinePair (wsV RX4 270 RX0 yX0_setLines wsX0_setLines) := goodIn_app (goodIn_of _ (by decide +kernel)) ggX4_setLinePair_X0_setLines
theorem dX4_setLinePair_0 : decode cX4_setLinePair 0 = .ok (.aload_n 0, 1) := by decide +kernel
theorem dX4_setLinePair_1 : decode cX4_setLinePair 1 = .ok (.aload_n 0, 1) := by decide +kernel
theorem dX4_setLinePair_2 : decode cX4_setLinePair 2 = .ok (.getfield 41, 3) := by decide +kernel
theorem dX4_setLinePair_5 : decode cX4_setLinePair 5 = .ok (.iload_n 2, 1) := by decide +kernel
theorem dX4_setLinePair_6 : decode cX4_setLinePair 6 = .ok (.iload_n 3, 1) := by decide +kernel
theorem dX4_setLinePair_7 : decode cX4_setLinePair 7 = .ok (.invokevirtual 256, 3) := by decide +kernel
theorem dX4_setLinePair_10 : decode cX4_setLinePair 10 = .ok (.aload_n 0, 1) := by decide +kernel
theorem dX4_setLinePair_11 : decode cX4_setLinePair 11 = .ok (.aload_n 0, 1) := by decide +kernel
theorem dX4_setLinePair_12 : decode cX4_setLinePair 12 = .ok (.getfield 44, 3) := by decide +kernel
theorem dX4_setLinePair_15 : decode cX4_setLinePair 15 = .ok (.iload 4, 2) := by decide +kernel
theorem dX4_setLinePair_17 : decode cX4_setLinePair 17 = .ok (.iload 5, 2) := by decide +kernel
theorem dX4_setLinePair_19 : decode cX4_setLinePair 19 = .ok (.invokevirtual 256, 3) := by decide +kernel
theorem dX4_setLinePair_22 : decode cX4_setLinePair 22 = .ok (.aload_n 1, 1) := by decide +kernel
theorem dX4_setLinePair_23 : decode cX4_setLinePair 23 = .ok (.aload_n 0, 1) := by decide +kernel
theorem dX4_setLinePair_24 : decode cX4_setLinePair 24 = .ok (.getfield 41, 3) := by decide +kernel
theorem dX4_setLinePair_27 : decode cX4_setLinePair 27 = .ok (.aload_n 0, 1) := by decide +kernel
theorem dX4_setLinePair_28 : decode cX4_setLinePair 28 = .ok (.getfield 44, 3) := by decide +kernel
theorem dX4_setLinePair_31 : decode cX4_setLinePair 31 = .ok (.invokevirtual 270, 3) := by decide +kernel
theorem dX4_setLinePair_34 : decode cX4_setLinePair 34 = .ok (.return_, 1) := by decide +kernel
theorem dX4_properKind_0 : decode cX4_properKind 0 = .ok (.lload_n 0, 1) := by decide +kernel
theorem dX4_properKind_1 : decode cX4_properKind 1 = .ok (.lconst 0, 1) := by decide +kernel
theorem dX4_properKind_2 : decode cX4_properKind 2 = .ok (.lcmp, 1) := by decide +kernel
theorem dX4_properKind_3 : decode cX4_properKind 3 = .ok (.ifCond .le 5, 3) := by decide +kernel
theorem dX4_properKind_6 : decode cX4_properKind 6 = .ok (.iconst 3, 1) := by decide +kernel
theorem dX4_properKind_7 : decode cX4_properKind 7 = .ok (.ireturn, 1) := by decide +kernel
theorem dX4_properKind_8 : decode cX4_properKind 8 = .ok (.lload_n 0, 1) := by decide +kernel
theorem dX4_properKind_9 : decode cX4_properKind 9 = .ok (.lconst 0, 1) := by decide +kernel
theorem dX4_properKind_10 : decode cX4_properKind 10 = .ok (.lcmp, 1) := by decide +kernel
theorem dX4_properKind_11 : decode cX4_properKind 11 = .ok (.ifCond .ne 5, 3) := by decide +kernel
theorem dX4_properKind_14 : decode cX4_properKind 14 = .ok (.iconst 2, 1) := by decide +kernel
theorem dX4_properKind_15 : decode cX4_properKind 15 = .ok (.ireturn, 1) := by decide +kernel
theorem dX4_properKind_16 : decode cX4_properKind 16 = .ok (.lload_n 2, 1) := by decide +kernel
theorem dX4_properKind_17 : decode cX4_properKind 17 = .ok (.lconst 0, 1) := by decide +kernel
theorem dX4_properKind_18 : decode cX4_properKind 18 = .ok (.lcmp, 1) := by decide +kernel
theorem dX4_properKind_19 : decode cX4_properKind 19 = .ok (.ifCond .ge 7, 3) := by decide +kernel
theorem dX4_properKind_22 : decode cX4_properKind 22 = .ok (.iconst 0, 1) := by decide +kernel
theorem dX4_properKind_23 : decode cX4_properKind 23 = .ok (.goto 4, 3) := by decide +kernel
theorem dX4_properKind_26 : decode cX4_properKind 26 = .ok (.iconst 1, 1) := by decide +kernel
theorem dX4_properKind_27 : decode cX4_properKind 27 = .ok (.ireturn, 1) := by decide +kernel
theorem dX4_flatKind_0 : decode cX4_flatKind 0 = .ok (.aload_n 0, 1) := by decide +kernel
theorem dX4_flatKind_1 : decode cX4_flatKind 1 = .ok (.getfield 162, 3) := by decide +kernel
theorem dX4_flatKind_4 : decode cX4_flatKind 4 = .ok (.lconst 0, 1) := by decide +kernel
theorem dX4_flatKind_5 : decode cX4_flatKind 5 = .ok (.lcmp, 1) := by decide +kernel
theorem dX4_flatKind_6 : decode cX4_flatKind 6 = .ok (.ifCond .ne 47, 3) := by decide +kernel
theorem dX4_flatKind_9 : decode cX4_flatKind 9 = .ok (.aload_n 0, 1) := by decide +kernel
theorem dX4_flatKind_10 : decode cX4_flatKind 10 = .ok (.getfield 180, 3) := by decide +kernel
theorem dX4_flatKind_13 : decode cX4_flatKind 13 = .ok (.lconst 0, 1) := by decide +kernel
theorem dX4_flatKind_14 : decode cX4_flatKind 14 = .ok (.lcmp, 1) := by decide +kernel
theorem dX4_flatKind_15 : decode cX4_flatKind 15 = .ok (.ifCond .ne 38, 3) := by decide +kernel
theorem dX4_flatKind_18 : decode cX4_flatKind 18 = .ok (.aload_n 0, 1) := by decide +kernel
theorem dX4_flatKind_19 : decode cX4_flatKind 19 = .ok (.getfield 166, 3) := by decide +kernel
theorem dX4_flatKind_22 : decode cX4_flatKind 22 = .ok (.lconst 0, 1) := by decide +kernel
theorem dX4_flatKind_23 : decode cX4_flatKind 23 = .ok (.lcmp, 1) := by decide +kernel
theorem dX4_flatKind_24 : decode cX4_flatKind 24 = .ok (.ifCond .ne 29, 3) := by decide +kernel
theorem dX4_flatKind_27 : decode cX4_flatKind 27 = .ok (.aload_n 0, 1) := by decide +kernel
theorem dX4_flatKind_28 : decode cX4_flatKind 28 = .ok (.getfield 198, 3) := by decide +kernel
theorem dX4_flatKind_31 : decode cX4_flatKind 31 = .ok (.lconst 0, 1) := by decide +kernel
theorem dX4_flatKind_32 : decode cX4_flatKind 32 = .ok (.lcmp, 1) := by decide +kernel
theorem dX4_flatKind_33 : decode cX4_flatKind 33 = .ok (.ifCond .ne 17, 3) := by decide +kernel
theorem dX4_flatKind_36 : decode cX4_flatKind 36 = .ok (.aload_n 0, 1) := by decide +kernel
theorem dX4_flatKind_37 : decode cX4_flatKind 37 = .ok (.getfield 201, 3) := by decide +kernel
theorem dX4_flatKind_40 : decode cX4_flatKind 40 = .ok (.lconst 0, 1) := by decide +kernel
theorem dX4_flatKind_41 : decode cX4_flatKind 41 = .ok (.lcmp, 1) := by decide +kernel
theorem dX4_flatKind_42 : decode cX4_flatKind 42 = .ok (.ifCond .ne 8, 3) := by decide +kernel
theorem dX4_flatKind_45 : decode cX4_flatKind 45 = .ok (.bipush 10, 2) := by decide +kernel
theorem dX4_flatKind_47 : decode cX4_flatKind 47 = .ok (.goto 5, 3) := by decide +kernel
theorem dX4_flatKind_50 : decode cX4_flatKind 50 = .ok (.bipush 9, 2) := by decide +kernel
theorem dX4_flatKind_52 : decode cX4_flatKind 52 = .ok (.ireturn, 1) := by decide +kernel
theorem dX4_flatKind_53 : decode cX4_flatKind 53 = .ok (.aload_n 0, 1) := by decide +kernel
theorem dX4_flatKind_54 : decode cX4_flatKind 54 = .ok (.getfield 198, 3) := by decide +kernel
theorem dX4_flatKind_57 : decode cX4_flatKind 57 = .ok (.aload_n 0, 1) := by decide +kernel
theorem dX4_flatKind_58 : decode cX4_flatKind 58 = .ok (.getfield 198, 3) := by decide +kernel
theorem dX4_flatKind_61 : decode cX4_flatKind 61 = .ok (.lmul, 1) := by decide +kernel
theorem dX4_flatKind_62 : decode cX4_flatKind 62 = .ok (.aload_n 0, 1) := by decide +kernel
theorem dX4_flatKind_63 : decode cX4_flatKind 63 = .ok (.getfield 201, 3) := by decide +kernel
theorem dX4_flatKind_66 : decode cX4_flatKind 66 = .ok (.aload_n 0, 1) := by decide +kernel
theorem dX4_flatKind_67 : decode cX4_flatKind 67 = .ok (.getfield 201, 3) := by decide +kernel
theorem dX4_flatKind_70 : decode cX4_flatKind 70 = .ok (.lmul, 1) := by decide +kernel
theorem dX4_flatKind_71 : decode cX4_flatKind 71 = .ok (.ladd, 1) := by decide +kernel
theorem dX4_flatKind_72 : decode cX4_flatKind 72 = .ok (.ldc2_w 273, 3) := by decide +kernel
theorem dX4_flatKind_75 : decode cX4_flatKind 75 = .ok (.aload_n 0, 1) := by decide +kernel
theorem dX4_flatKind_76 : decode cX4_flatKind 76 = .ok (.getfield 162, 3) := by decide +kernel
theorem dX4_flatKind_79 : decode cX4_flatKind 79 = .ok (.aload_n 0, 1) := by decide +kernel
theorem dX4_flatKind_80 : decode cX4_flatKind 80 = .ok (.getfield 166, 3) := by decide +kernel
theorem dX4_flatKind_83 : decode cX4_flatKind 83 = .ok (.ladd, 1) := by decide +kernel
theorem dX4_flatKind_84 : decode cX4_flatKind 84 = .ok (.lmul, 1) := by decide +kernel
theorem dX4_flatKind_85 : decode cX4_flatKind 85 = .ok (.aload_n 0, 1) := by decide +kernel
theorem dX4_flatKind_86 : decode cX4_flatKind 86 = .ok (.getfield 204, 3) := by decide +kernel
theorem dX4_flatKind_89 : decode cX4_flatKind 89 = .ok (.lmul, 1) := by decide +kernel
theorem dX4_flatKind_90 : decode cX4_flatKind 90 = .ok (.lsub, 1) := by decide +kernel
theorem dX4_flatKind_91 : decode cX4_flatKind 91 = .ok (.lstore_n 1, 1) := by decide +kernel
theorem dX4_flatKind_92 : decode cX4_flatKind 92 = .ok (.lload_n 1, 1) := by decide +kernel
theorem dX4_flatKind_93 : decode cX4_flatKind 93 = .ok (.lconst 0, 1) := by decide +kernel
theorem dX4_flatKind_94 : decode cX4_flatKind 94 = .ok (.lcmp, 1) := by decide +kernel
theorem dX4_flatKind_95 : decode cX4_flatKind 95 = .ok (.ifCond .ne 6, 3) := by decide +kernel
theorem dX4_flatKind_98 : decode cX4_flatKind 98 = .ok (.bipush 6, 2) := by decide +kernel
theorem dX4_flatKind_100 : decode cX4_flatKind 100 = .ok (.ireturn, 1) := by decide +kernel
theorem dX4_flatKind_101 : decode cX4_flatKind 101 = .ok (.lload_n 1, 1) := by decide +kernel
theorem dX4_flatKind_102 : decode cX4_flatKind 102 = .ok (.lconst 0, 1) := by decide +kernel
theorem dX4_flatKind_103 : decode cX4_flatKind 103 = .ok (.lcmp, 1) := by decide +kernel
theorem dX4_flatKind_104 : decode cX4_flatKind 104 = .ok (.ifCond .le 7, 3) := by decide +kernel
theorem dX4_flatKind_107 : decode cX4_flatKind 107 = .ok (.iconst 5, 1) := by decide +kernel
theorem dX4_flatKind_108 : decode cX4_flatKind 108 = .ok (.goto 5, 3) := by decide +kernel
theorem dX4_flatKind_111 : decode cX4_flatKind 111 = .ok (.bipush 8, 2) := by decide +kernel
theorem dX4_flatKind_113 : decode cX4_flatKind 113 = .ok (.ireturn, 1) := by decide +kernel
set_option maxRecDepth 20000 in
theorem ggX4_mixedDet_X0_setMinors : GoodIn wsX4_mixedDet wsX0_setMinors := goodIn_r _ [6, 7, 8, 9, 10, 11, 12, 13, 14, 15, 16, 17, 5, 18, 19, 20, 21, 22, 37, 38, 39, 40, 41, 42] (by decide +kernel) (by decide +kernel)
set_option maxRecDepth 20000 in
theorem gX4_mixedDet_X0_setMinors : GoodIn wsX4_mixedDet (wsV RX4 191 RX0 yX0_setMinors wsX0_setMinors) := goodIn_app (goodIn_of _ (by decide +kernel)) ggX4_mixedDet_X0_setMinors
theorem dX4_mixedDet_0 : decode cX4_mixedDet 0 = .ok (.aload_n 0, 1) := by decide +kernel
theorem dX4_mixedDet_1 : decode cX4_mixedDet 1 = .ok (.getfield 60, 3) := by decide +kernel
theorem dX4_mixedDet_4 : decode cX4_mixedDet 4 = .ok (.aload_n 1, 1) := by decide +kernel
theorem dX4_mixedDet_5 : decode cX4_mixedDet 5 = .ok (.invokevirtual 191, 3) := by decide +kernel
theorem dX4_mixedDet_8 : decode cX4_mixedDet 8 = .ok (.aload_n 0, 1) := by decide +kernel
theorem dX4_mixedDet_9 : decode cX4_mixedDet 9 = .ok (.getfield 60, 3) := by decide +kernel
theorem dX4_mixedDet_12 : decode cX4_mixedDet 12 = .ok (.getfield 162, 3) := by decide +kernel
theorem dX4_mixedDet_15 : decode cX4_mixedDet 15 = .ok (.aload_n 2, 1) := by decide +kernel
theorem dX4_mixedDet_16 : decode cX4_mixedDet 16 = .ok (.getfield 162, 3) := by decide +kernel
theorem dX4_mixedDet_19 : decode cX4_mixedDet 19 = .ok (.lmul, 1) := by decide +kernel
theorem dX4_mixedDet_20 : decode cX4_mixedDet 20 = .ok (.aload_n 0, 1) := by decide +kernel
theorem dX4_mixedDet_21 : decode cX4_mixedDet 21 = .ok (.getfield 60, 3) := by decide +kernel
theorem dX4_mixedDet_24 : decode cX4_mixedDet 24 = .ok (.getfield 180, 3) := by decide +kernel
theorem dX4_mixedDet_27 : decode cX4_mixedDet 27 = .ok (.aload_n 2, 1) := by decide +kernel
theorem dX4_mixedDet_28 : decode cX4_mixedDet 28 = .ok (.getfield 180, 3) := by decide +kernel
theorem dX4_mixedDet_31 : decode cX4_mixedDet 31 = .ok (.lmul, 1) := by decide +kernel
theorem dX4_mixedDet_32 : decode cX4_mixedDet 32 = .ok (.ladd, 1) := by decide +kernel
theorem dX4_mixedDet_33 : decode cX4_mixedDet 33 = .ok (.aload_n 0, 1) := by decide +kernel
theorem dX4_mixedDet_34 : decode cX4_mixedDet 34 = .ok (.getfield 60, 3) := by decide +kernel
theorem dX4_mixedDet_37 : decode cX4_mixedDet 37 = .ok (.getfield 166, 3) := by decide +kernel
theorem dX4_mixedDet_40 : decode cX4_mixedDet 40 = .ok (.aload_n 2, 1) := by decide +kernel
theorem dX4_mixedDet_41 : decode cX4_mixedDet 41 = .ok (.getfield 166, 3) := by decide +kernel
theorem dX4_mixedDet_44 : decode cX4_mixedDet 44 = .ok (.lmul, 1) := by decide +kernel
theorem dX4_mixedDet_45 : decode cX4_mixedDet 45 = .ok (.ladd, 1) := by decide +kernel
theorem dX4_mixedDet_46 : decode cX4_mixedDet 46 = .ok (.aload_n 0, 1) := by decide +kernel
theorem dX4_mixedDet_47 : decode cX4_mixedDet 47 = .ok (.getfield 60, 3) := by decide +kernel
theorem dX4_mixedDet_50 : decode cX4_mixedDet 50 = .ok (.getfield 198, 3) := by decide +kernel
theorem dX4_mixedDet_53 : decode cX4_mixedDet 53 = .ok (.aload_n 2, 1) := by decide +kernel
theorem dX4_mixedDet_54 : decode cX4_mixedDet 54 = .ok (.getfield 198, 3) := by decide +kernel
theorem dX4_mixedDet_57 : decode cX4_mixedDet 57 = .ok (.lmul, 1) := by decide +kernel
theorem dX4_mixedDet_58 : decode cX4_mixedDet 58 = .ok (.ladd, 1) := by decide +kernel
theorem dX4_mixedDet_59 : decode cX4_mixedDet 59 = .ok (.aload_n 0, 1) := by decide +kernel
theorem dX4_mixedDet_60 : decode cX4_mixedDet 60 = .ok (.getfield 60, 3) := by decide +kernel
theorem dX4_mixedDet_63 : decode cX4_mixedDet 63 = .ok (.getfield 201, 3) := by decide +kernel
theorem dX4_mixedDet_66 : decode cX4_mixedDet 66 = .ok (.aload_n 2, 1) := by decide +kernel
theorem dX4_mixedDet_67 : decode cX4_mixedDet 67 = .ok (.getfield 201, 3) := by decide +kernel
theorem dX4_mixedDet_70 : decode cX4_mixedDet 70 = .ok (.lmul, 1) := by decide +kernel
theorem dX4_mixedDet_71 : decode cX4_mixedDet 71 = .ok (.ladd, 1) := by decide +kernel
theorem dX4_mixedDet_72 : decode cX4_mixedDet 72 = .ok (.aload_n 0, 1) := by decide +kernel
theorem dX4_mixedDet_73 : decode cX4_mixedDet 73 = .ok (.getfield 60, 3) := by decide +kernel
theorem dX4_mixedDet_76 : decode cX4_mixedDet 76 = .ok (.getfield 204, 3) := by decide +kernel
theorem dX4_mixedDet_79 : decode cX4_mixedDet 79 = .ok (.aload_n 2, 1) := by decide +kernel
theorem dX4_mixedDet_80 : decode cX4_mixedDet 80 = .ok (.getfield 204, 3) := by decide +kernel
theorem dX4_mixedDet_83 : decode cX4_mixedDet 83 = .ok (.lmul, 1) := by decide +kernel
theorem dX4_mixedDet_84 : decode cX4_mixedDet 84 = .ok (.ladd, 1) := by decide +kernel
theorem dX4_mixedDet_85 : decode cX4_mixedDet 85 = .ok (.lreturn, 1) := by decide +kernel
set_option maxRecDepth 20000 in
theorem ggX4_setCrossed_X3_set : GoodIn wsX4_setCrossed wsX3_set := goodIn_r _ [7, 8, 9, 10, 54, 55, 56] (by decide +kernel) (by decide +kernel)
set_option maxRecDepth 20000 in
theorem gX4_setCrossed_X3_set : GoodIn wsX4_setCrossed (wsV RX4 207 RX3 yX3_set wsX3_set) := goodIn_app (goodIn_of _ (by decide +kernel)) ggX4_setCrossed_X3_set
set_option maxRecDepth 20000 in
theorem ggX4_setCrossed_X0_valueAt : GoodIn wsX4_setCrossed wsX0_valueAt := goodIn_r _ [15, 16, 17, 18, 19, 20, 21, 57, 58, 59, 60, 61, 62, 54, 55, 56] (by decide +kernel) (by decide +kernel)
set_option maxRecDepth 20000 in
theorem gX4_setCrossed_X0_valueAt : GoodIn wsX4_setCrossed (wsV RX4 129 RX0 yX0_valueAt wsX0_valueAt) := goodIn_app (goodIn_of _ (by decide +kernel)) ggX4_setCrossed_X0_valueAt
set_option maxRecDepth 20000 in
theorem ggX4_setCrossed_X3_setPolar : GoodIn wsX4_setCrossed wsX3_setPolar := goodIn_r _ [25, 26, 8, 9, 10, 27, 4, 5, 6, 7, 57, 58, 59, 60, 61, 62, 54, 55, 56] (by decide +kernel) (by decide +kernel)
set_option maxRecDepth 20000 in
theorem gX4_setCrossed_X3_setPolar : GoodIn wsX4_setCrossed (wsV RX4 183 RX3 yX3_setPolar wsX3_setPolar) := goodIn_app (goodIn_of _ (by decide +kernel)) ggX4_setCrossed_X3_setPolar
set_option maxRecDepth 20000 in
theorem ggX4_setCrossed_X3_times : GoodIn wsX4_setCrossed wsX3_times := goodIn_r _ [31, 8, 9, 10, 54, 55, 56] (by decide +kernel) (by decide +kernel)
set_option maxRecDepth 20000 in
theorem gX4_setCrossed_X3_times : GoodIn wsX4_setCrossed (wsV RX4 124 RX3 yX3_times wsX3_times) := goodIn_app (goodIn_of _ (by decide +kernel)) ggX4_setCrossed_X3_times
set_option maxRecDepth 20000 in
theorem ggX4_setCrossed_X0_setQuadratic : GoodIn wsX4_setCrossed wsX0_setQuadratic := goodIn_r _ [35, 16, 17, 18, 57, 58, 59, 60, 61, 62] (by decide +kernel) (by decide +kernel)
set_option maxRecDepth 20000 in
theorem gX4_setCrossed_X0_setQuadratic : GoodIn wsX4_setCrossed (wsV RX4 74 RX0 yX0_setQuadratic wsX0_setQuadratic) := goodIn_app (goodIn_of _ (by decide +kernel)) ggX4_setCrossed_X0_setQuadratic
set_option maxRecDepth 20000 in
theorem ggX4_setCrossed_X0_setRest : GoodIn wsX4_setCrossed wsX0_setRest := goodIn_r _ [39, 19, 20, 21, 57, 58, 59, 60, 61, 62] (by decide +kernel) (by decide +kernel)
set_option maxRecDepth 20000 in
theorem gX4_setCrossed_X0_setRest : GoodIn wsX4_setCrossed (wsV RX4 78 RX0 yX0_setRest wsX0_setRest) := goodIn_app (goodIn_of _ (by decide +kernel)) ggX4_setCrossed_X0_setRest
theorem dX4_setCrossed_0 : decode cX4_setCrossed 0 = .ok (.aload_n 0, 1) := by decide +kernel
theorem dX4_setCrossed_1 : decode cX4_setCrossed 1 = .ok (.getfield 47, 3) := by decide +kernel
theorem dX4_setCrossed_4 : decode cX4_setCrossed 4 = .ok (.lconst 0, 1) := by decide +kernel
theorem dX4_setCrossed_5 : decode cX4_setCrossed 5 = .ok (.aload_n 3, 1) := by decide +kernel
theorem dX4_setCrossed_6 : decode cX4_setCrossed 6 = .ok (.getfield 275, 3) := by decide +kernel
theorem dX4_setCrossed_9 : decode cX4_setCrossed 9 = .ok (.aload_n 3, 1) := by decide +kernel
theorem dX4_setCrossed_10 : decode cX4_setCrossed 10 = .ok (.getfield 278, 3) := by decide +kernel
theorem dX4_setCrossed_13 : decode cX4_setCrossed 13 = .ok (.lneg, 1) := by decide +kernel
theorem dX4_setCrossed_14 : decode cX4_setCrossed 14 = .ok (.invokevirtual 207, 3) := by decide +kernel
theorem dX4_setCrossed_17 : decode cX4_setCrossed 17 = .ok (.aload_n 2, 1) := by decide +kernel
theorem dX4_setCrossed_18 : decode cX4_setCrossed 18 = .ok (.aload_n 0, 1) := by decide +kernel
theorem dX4_setCrossed_19 : decode cX4_setCrossed 19 = .ok (.getfield 47, 3) := by decide +kernel
theorem dX4_setCrossed_22 : decode cX4_setCrossed 22 = .ok (.invokevirtual 129, 3) := by decide +kernel
theorem dX4_setCrossed_25 : decode cX4_setCrossed 25 = .ok (.lstore 4, 2) := by decide +kernel
theorem dX4_setCrossed_27 : decode cX4_setCrossed 27 = .ok (.aload_n 0, 1) := by decide +kernel
theorem dX4_setCrossed_28 : decode cX4_setCrossed 28 = .ok (.getfield 41, 3) := by decide +kernel
theorem dX4_setCrossed_31 : decode cX4_setCrossed 31 = .ok (.aload_n 2, 1) := by decide +kernel
theorem dX4_setCrossed_32 : decode cX4_setCrossed 32 = .ok (.aload_n 0, 1) := by decide +kernel
theorem dX4_setCrossed_33 : decode cX4_setCrossed 33 = .ok (.getfield 47, 3) := by decide +kernel
theorem dX4_setCrossed_36 : decode cX4_setCrossed 36 = .ok (.invokevirtual 183, 3) := by decide +kernel
theorem dX4_setCrossed_39 : decode cX4_setCrossed 39 = .ok (.aload_n 0, 1) := by decide +kernel
theorem dX4_setCrossed_40 : decode cX4_setCrossed 40 = .ok (.getfield 47, 3) := by decide +kernel
theorem dX4_setCrossed_43 : decode cX4_setCrossed 43 = .ok (.aload_n 3, 1) := by decide +kernel
theorem dX4_setCrossed_44 : decode cX4_setCrossed 44 = .ok (.getfield 275, 3) := by decide +kernel
theorem dX4_setCrossed_47 : decode cX4_setCrossed 47 = .ok (.lneg, 1) := by decide +kernel
theorem dX4_setCrossed_48 : decode cX4_setCrossed 48 = .ok (.lconst 0, 1) := by decide +kernel
theorem dX4_setCrossed_49 : decode cX4_setCrossed 49 = .ok (.aload_n 3, 1) := by decide +kernel
theorem dX4_setCrossed_50 : decode cX4_setCrossed 50 = .ok (.getfield 281, 3) := by decide +kernel
theorem dX4_setCrossed_53 : decode cX4_setCrossed 53 = .ok (.invokevirtual 207, 3) := by decide +kernel
theorem dX4_setCrossed_56 : decode cX4_setCrossed 56 = .ok (.aload_n 0, 1) := by decide +kernel
theorem dX4_setCrossed_57 : decode cX4_setCrossed 57 = .ok (.getfield 41, 3) := by decide +kernel
theorem dX4_setCrossed_60 : decode cX4_setCrossed 60 = .ok (.aload_n 0, 1) := by decide +kernel
theorem dX4_setCrossed_61 : decode cX4_setCrossed 61 = .ok (.getfield 47, 3) := by decide +kernel
theorem dX4_setCrossed_64 : decode cX4_setCrossed 64 = .ok (.invokevirtual 124, 3) := by decide +kernel
theorem dX4_setCrossed_67 : decode cX4_setCrossed 67 = .ok (.lstore 6, 2) := by decide +kernel
theorem dX4_setCrossed_69 : decode cX4_setCrossed 69 = .ok (.aload_n 2, 1) := by decide +kernel
theorem dX4_setCrossed_70 : decode cX4_setCrossed 70 = .ok (.aload_n 0, 1) := by decide +kernel
theorem dX4_setCrossed_71 : decode cX4_setCrossed 71 = .ok (.getfield 47, 3) := by decide +kernel
theorem dX4_setCrossed_74 : decode cX4_setCrossed 74 = .ok (.invokevirtual 129, 3) := by decide +kernel
theorem dX4_setCrossed_77 : decode cX4_setCrossed 77 = .ok (.lstore 8, 2) := by decide +kernel
