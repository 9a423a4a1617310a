theorem dX4_dual_98 : decode cX4_dual 98 = .ok (.lmul, 1) := by decide +kernel
theorem dX4_dual_99 : decode cX4_dual 99 = .ok (.ldc2_w 210, 3) := by decide +kernel
theorem dX4_dual_102 : decode cX4_dual 102 = .ok (.aload_n 0, 1) := by decide +kernel
theorem dX4_dual_103 : decode cX4_dual 103 = .ok (.getfield 60, 3) := by decide +kernel
theorem dX4_dual_106 : decode cX4_dual 106 = .ok (.getfield 201, 3) := by decide +kernel
theorem dX4_dual_109 : decode cX4_dual 109 = .ok (.lmul, 1) := by decide +kernel
theorem dX4_dual_110 : decode cX4_dual 110 = .ok (.aload_n 0, 1) := by decide +kernel
theorem dX4_dual_111 : decode cX4_dual 111 = .ok (.getfield 60, 3) := by decide +kernel
theorem dX4_dual_114 : decode cX4_dual 114 = .ok (.getfield 204, 3) := by decide +kernel
theorem dX4_dual_117 : decode cX4_dual 117 = .ok (.invokevirtual 78, 3) := by decide +kernel
theorem dX4_dual_120 : decode cX4_dual 120 = .ok (.aload_n 0, 1) := by decide +kernel
theorem dX4_dual_121 : decode cX4_dual 121 = .ok (.invokevirtual 151, 3) := by decide +kernel
theorem dX4_dual_124 : decode cX4_dual 124 = .ok (.ireturn, 1) := by decide +kernel
set_option maxRecDepth 20000 in
theorem ggX4_member_X2_has : GoodIn wsX4_member wsX2_has := goodIn_r _ [12, 13, 104, 105, 106] (by decide +kernel) (by decide +kernel)
set_option maxRecDepth 20000 in
theorem gX4_member_X2_has : GoodIn wsX4_member (wsV RX4 104 RX2 yX2_has wsX2_has) := goodIn_app (goodIn_of _ (by decide +kernel)) ggX4_member_X2_has
set_option maxRecDepth 20000 in
theorem ggX4_member_X4_isWithin : GoodIn wsX4_member wsX4_isWithin := goodIn_r _ [17] (by decide +kernel) (by decide +kernel)
set_option maxRecDepth 20000 in
theorem gX4_member_X4_isWithin : GoodIn wsX4_member (va_wsS RX4 214 yX4_isWithin wsX4_isWithin) := goodIn_app (goodIn_of _ (by decide +kernel)) ggX4_member_X4_isWithin
set_option maxRecDepth 20000 in
theorem ggX4_member_X0_read : GoodIn wsX4_member wsX0_read := goodIn_r _ [22, 23, 24, 25, 11, 26, 27, 28, 29, 9, 10, 12, 13, 30, 31, 32, 21, 33, 34, 35, 36, 37, 38, 39, 40, 41, 42, 43, 104, 105, 106, 107, 108, 109, 110, 111, 112] (by decide +kernel) (by decide +kernel)
set_option maxRecDepth 20000 in
theorem gX4_member_X0_read : GoodIn wsX4_member (wsV RX4 128 RX0 yX0_read wsX0_read) := goodIn_app (goodIn_of _ (by decide +kernel)) ggX4_member_X0_read
set_option maxRecDepth 20000 in
theorem ggX4_member_X0_setTogether : GoodIn wsX4_member wsX0_setTogether := goodIn_r _ [47, 34, 35, 36, 41, 42, 43, 30, 31, 32, 21, 33, 37, 38, 39, 40, 107, 108, 109, 110, 111, 112] (by decide +kernel) (by decide +kernel)
set_option maxRecDepth 20000 in
theorem gX4_member_X0_setTogether : GoodIn wsX4_member (wsV RX4 217 RX0 yX0_setTogether wsX0_setTogether) := goodIn_app (goodIn_of _ (by decide +kernel)) ggX4_member_X0_setTogether
set_option maxRecDepth 20000 in
theorem ggX4_member_X4_keepFormUnlessZero : GoodIn wsX4_member wsX4_keepFormUnlessZero := goodIn_r _ [51, 7, 52, 1, 53, 54, 55, 21, 56, 34, 35, 36, 41, 42, 43, 57, 58, 59, 11, 60, 61, 62, 63, 64, 65, 66, 67, 68, 69, 70, 71, 16, 72, 73, 74, 75, 76, 30, 31, 32, 33, 37, 38, 39, 40, 77, 78, 79, 80, 15, 17, 81, 82, 83, 84, 13, 27, 28, 85, 86, 87, 88, 89, 90, 91, 92, 93, 94, 95, 96, 97, 98, 99, 100, 101, 102, 103, 107, 108, 109, 110, 111, 112, 104, 105, 106] (by decide +kernel) (by decide +kernel)
set_option maxRecDepth 20000 in
theorem gX4_member_X4_keepFormUnlessZero : GoodIn wsX4_member (wsV RX4 151 RX4 yX4_keepFormUnlessZero wsX4_keepFormUnlessZero) := goodIn_app (goodIn_of _ (by decide +kernel)) ggX4_member_X4_keepFormUnlessZero
theorem dX4_member_0 : decode cX4_member 0 = .ok (.aload_n 0, 1) := by decide +kernel
theorem dX4_member_1 : decode cX4_member 1 = .ok (.getfield 21, 3) := by decide +kernel
theorem dX4_member_4 : decode cX4_member 4 = .ok (.iload_n 1, 1) := by decide +kernel
theorem dX4_member_5 : decode cX4_member 5 = .ok (.invokevirtual 104, 3) := by decide +kernel
theorem dX4_member_8 : decode cX4_member 8 = .ok (.ifCond .eq 14, 3) := by decide +kernel
theorem dX4_member_11 : decode cX4_member 11 = .ok (.aload_n 0, 1) := by decide +kernel
theorem dX4_member_12 : decode cX4_member 12 = .ok (.getfield 21, 3) := by decide +kernel
theorem dX4_member_15 : decode cX4_member 15 = .ok (.iload_n 2, 1) := by decide +kernel
theorem dX4_member_16 : decode cX4_member 16 = .ok (.invokevirtual 104, 3) := by decide +kernel
theorem dX4_member_19 : decode cX4_member 19 = .ok (.ifCond .ne 6, 3) := by decide +kernel
theorem dX4_member_22 : decode cX4_member 22 = .ok (.ldc 108, 2) := by decide +kernel
theorem dX4_member_24 : decode cX4_member 24 = .ok (.ireturn, 1) := by decide +kernel
theorem dX4_member_25 : decode cX4_member 25 = .ok (.iload_n 3, 1) := by decide +kernel
theorem dX4_member_26 : decode cX4_member 26 = .ok (.i2l, 1) := by decide +kernel
theorem dX4_member_27 : decode cX4_member 27 = .ok (.ldc2_w 212, 3) := by decide +kernel
theorem dX4_member_30 : decode cX4_member 30 = .ok (.invokestatic 214, 3) := by decide +kernel
theorem dX4_member_33 : decode cX4_member 33 = .ok (.ifCond .eq 15, 3) := by decide +kernel
theorem dX4_member_36 : decode cX4_member 36 = .ok (.iload 4, 2) := by decide +kernel
theorem dX4_member_38 : decode cX4_member 38 = .ok (.i2l, 1) := by decide +kernel
theorem dX4_member_39 : decode cX4_member 39 = .ok (.ldc2_w 212, 3) := by decide +kernel
theorem dX4_member_42 : decode cX4_member 42 = .ok (.invokestatic 214, 3) := by decide +kernel
theorem dX4_member_45 : decode cX4_member 45 = .ok (.ifCond .ne 6, 3) := by decide +kernel
theorem dX4_member_48 : decode cX4_member 48 = .ok (.ldc 91, 2) := by decide +kernel
theorem dX4_member_50 : decode cX4_member 50 = .ok (.ireturn, 1) := by decide +kernel
theorem dX4_member_51 : decode cX4_member 51 = .ok (.aload_n 0, 1) := by decide +kernel
theorem dX4_member_52 : decode cX4_member 52 = .ok (.getfield 53, 3) := by decide +kernel
theorem dX4_member_55 : decode cX4_member 55 = .ok (.aload_n 0, 1) := by decide +kernel
theorem dX4_member_56 : decode cX4_member 56 = .ok (.getfield 21, 3) := by decide +kernel
theorem dX4_member_59 : decode cX4_member 59 = .ok (.iload_n 1, 1) := by decide +kernel
theorem dX4_member_60 : decode cX4_member 60 = .ok (.invokevirtual 128, 3) := by decide +kernel
theorem dX4_member_63 : decode cX4_member 63 = .ok (.aload_n 0, 1) := by decide +kernel
theorem dX4_member_64 : decode cX4_member 64 = .ok (.getfield 57, 3) := by decide +kernel
theorem dX4_member_67 : decode cX4_member 67 = .ok (.aload_n 0, 1) := by decide +kernel
theorem dX4_member_68 : decode cX4_member 68 = .ok (.getfield 21, 3) := by decide +kernel
theorem dX4_member_71 : decode cX4_member 71 = .ok (.iload_n 2, 1) := by decide +kernel
theorem dX4_member_72 : decode cX4_member 72 = .ok (.invokevirtual 128, 3) := by decide +kernel
theorem dX4_member_75 : decode cX4_member 75 = .ok (.aload_n 0, 1) := by decide +kernel
theorem dX4_member_76 : decode cX4_member 76 = .ok (.getfield 63, 3) := by decide +kernel
theorem dX4_member_79 : decode cX4_member 79 = .ok (.aload_n 0, 1) := by decide +kernel
theorem dX4_member_80 : decode cX4_member 80 = .ok (.getfield 53, 3) := by decide +kernel
theorem dX4_member_83 : decode cX4_member 83 = .ok (.iload_n 3, 1) := by decide +kernel
theorem dX4_member_84 : decode cX4_member 84 = .ok (.i2l, 1) := by decide +kernel
theorem dX4_member_85 : decode cX4_member 85 = .ok (.aload_n 0, 1) := by decide +kernel
theorem dX4_member_86 : decode cX4_member 86 = .ok (.getfield 57, 3) := by decide +kernel
theorem dX4_member_89 : decode cX4_member 89 = .ok (.iload 4, 2) := by decide +kernel
theorem dX4_member_91 : decode cX4_member 91 = .ok (.i2l, 1) := by decide +kernel
theorem dX4_member_92 : decode cX4_member 92 = .ok (.invokevirtual 217, 3) := by decide +kernel
theorem dX4_member_95 : decode cX4_member 95 = .ok (.aload_n 0, 1) := by decide +kernel
theorem dX4_member_96 : decode cX4_member 96 = .ok (.invokevirtual 151, 3) := by decide +kernel
theorem dX4_member_99 : decode cX4_member 99 = .ok (.ireturn, 1) := by decide +kernel
set_option maxRecDepth 20000 in
theorem ggX4_through_X2_has : GoodIn wsX4_through wsX2_has := goodIn_r _ [12, 13, 124, 125, 126] (by decide +kernel) (by decide +kernel)
set_option maxRecDepth 20000 in
theorem gX4_through_X2_has : GoodIn wsX4_through (wsV RX4 104 RX2 yX2_has wsX2_has) := goodIn_app (goodIn_of _ (by decide +kernel)) ggX4_through_X2_has
set_option maxRecDepth 20000 in
theorem ggX4_through_X0_read : GoodIn wsX4_through wsX0_read := goodIn_r _ [18, 19, 20, 21, 11, 22, 23, 24, 25, 9, 10, 12, 13, 26, 27, 28, 17, 29, 30, 31, 32, 33, 34, 35, 36, 37, 38, 39, 124, 125, 126, 127, 128, 129, 130, 131, 132] (by decide +kernel) (by decide +kernel)
set_option maxRecDepth 20000 in
theorem gX4_through_X0_read : GoodIn wsX4_through (wsV RX4 128 RX0 yX0_read wsX0_read) := goodIn_app (goodIn_of _ (by decide +kernel)) ggX4_through_X0_read
set_option maxRecDepth 20000 in
theorem ggX4_through_X3_read : GoodIn wsX4_through wsX3_read := goodIn_r _ [44, 45, 20, 21, 11, 22, 23, 24, 25, 9, 10, 12, 13, 46, 47, 48, 43, 49, 50, 51, 52, 124, 125, 126, 133, 134, 135] (by decide +kernel) (by decide +kernel)
set_option maxRecDepth 20000 in
theorem gX4_through_X3_read : GoodIn wsX4_through (wsV RX4 120 RX3 yX3_read wsX3_read) := goodIn_app (goodIn_of _ (by decide +kernel)) ggX4_through_X3_read
set_option maxRecDepth 20000 in
theorem ggX4_through_X0_setThrough : GoodIn wsX4_through wsX0_setThrough := goodIn_r _ [56, 57, 58, 59, 17, 60, 30, 31, 32, 37, 38, 39, 61, 62, 63, 64, 26, 27, 28, 29, 33, 34, 35, 36, 127, 128, 129, 130, 131, 132, 133, 134, 135] (by decide +kernel) (by decide +kernel)
set_option maxRecDepth 20000 in
theorem gX4_through_X0_setThrough : GoodIn wsX4_through (wsV RX4 147 RX0 yX0_setThrough wsX0_setThrough) := goodIn_app (goodIn_of _ (by decide +kernel)) ggX4_through_X0_setThrough
set_option maxRecDepth 20000 in
theorem ggX4_through_X4_keepFormUnlessZero : GoodIn wsX4_through wsX4_keepFormUnlessZero := goodIn_r _ [69, 7, 70, 1, 71, 72, 73, 17, 74, 30, 31, 32, 37, 38, 39, 75, 76, 77, 11, 78, 79, 80, 81, 82, 83, 84, 85, 86, 87, 88, 89, 68, 90, 91, 92, 93, 94, 26, 27, 28, 29, 33, 34, 35, 36, 95, 96, 97, 98, 99, 100, 101, 102, 103, 104, 13, 23, 24, 105, 106, 107, 108, 109, 110, 111, 112, 113, 114, 115, 116, 117, 118, 119, 120, 121, 122, 123, 127, 128, 129, 130, 131, 132, 124, 125, 126] (by decide +kernel) (by decide +kernel)
set_option maxRecDepth 20000 in
theorem gX4_through_X4_keepFormUnlessZero : GoodIn wsX4_through (wsV RX4 151 RX4 yX4_keepFormUnlessZero wsX4_keepFormUnlessZero) := goodIn_app (goodIn_of _ (by decide +kernel)) ggX4_through_X4_keepFormUnlessZero
theorem dX4_through_0 : decode cX4_through 0 = .ok (.aload_n 0, 1) := by decide +kernel
theorem dX4_through_1 : decode cX4_through 1 = .ok (.getfield 21, 3) := by decide +kernel
theorem dX4_through_4 : decode cX4_through 4 = .ok (.iload_n 1, 1) := by decide +kernel
theorem dX4_through_5 : decode cX4_through 5 = .ok (.invokevirtual 104, 3) := by decide +kernel
theorem dX4_through_8 : decode cX4_through 8 = .ok (.ifCond .eq 25, 3) := by decide +kernel
theorem dX4_through_11 : decode cX4_through 11 = .ok (.aload_n 0, 1) := by decide +kernel
theorem dX4_through_12 : decode cX4_through 12 = .ok (.getfield 21, 3) := by decide +kernel
theorem dX4_through_15 : decode cX4_through 15 = .ok (.iload_n 2, 1) := by decide +kernel
theorem dX4_through_16 : decode cX4_through 16 = .ok (.invokevirtual 104, 3) := by decide +kernel
theorem dX4_through_19 : decode cX4_through 19 = .ok (.ifCond .eq 14, 3) := by decide +kernel
theorem dX4_through_22 : decode cX4_through 22 = .ok (.aload_n 0, 1) := by decide +kernel
theorem dX4_through_23 : decode cX4_through 23 = .ok (.getfield 14, 3) := by decide +kernel
theorem dX4_through_26 : decode cX4_through 26 = .ok (.iload_n 3, 1) := by decide +kernel
theorem dX4_through_27 : decode cX4_through 27 = .ok (.invokevirtual 104, 3) := by decide +kernel
theorem dX4_through_30 : decode cX4_through 30 = .ok (.ifCond .ne 6, 3) := by decide +kernel
theorem dX4_through_33 : decode cX4_through 33 = .ok (.ldc 108, 2) := by decide +kernel
theorem dX4_through_35 : decode cX4_through 35 = .ok (.ireturn, 1) := by decide +kernel
theorem dX4_through_36 : decode cX4_through 36 = .ok (.aload_n 0, 1) := by decide +kernel
theorem dX4_through_37 : decode cX4_through 37 = .ok (.getfield 53, 3) := by decide +kernel
theorem dX4_through_40 : decode cX4_through 40 = .ok (.aload_n 0, 1) := by decide +kernel
theorem dX4_through_41 : decode cX4_through 41 = .ok (.getfield 21, 3) := by decide +kernel
theorem dX4_through_44 : decode cX4_through 44 = .ok (.iload_n 1, 1) := by decide +kernel
theorem dX4_through_45 : decode cX4_through 45 = .ok (.invokevirtual 128, 3) := by decide +kernel
theorem dX4_through_48 : decode cX4_through 48 = .ok (.aload_n 0, 1) := by decide +kernel
theorem dX4_through_49 : decode cX4_through 49 = .ok (.getfield 57, 3) := by decide +kernel
theorem dX4_through_52 : decode cX4_through 52 = .ok (.aload_n 0, 1) := by decide +kernel
theorem dX4_through_53 : decode cX4_through 53 = .ok (.getfield 21, 3) := by decide +kernel
theorem dX4_through_56 : decode cX4_through 56 = .ok (.iload_n 2, 1) := by decide +kernel
theorem dX4_through_57 : decode cX4_through 57 = .ok (.invokevirtual 128, 3) := by decide +kernel
theorem dX4_through_60 : decode cX4_through 60 = .ok (.aload_n 0, 1) := by decide +kernel
theorem dX4_through_61 : decode cX4_through 61 = .ok (.getfield 37, 3) := by decide +kernel
theorem dX4_through_64 : decode cX4_through 64 = .ok (.aload_n 0, 1) := by decide +kernel
theorem dX4_through_65 : decode cX4_through 65 = .ok (.getfield 14, 3) := by decide +kernel
theorem dX4_through_68 : decode cX4_through 68 = .ok (.iload_n 3, 1) := by decide +kernel
theorem dX4_through_69 : decode cX4_through 69 = .ok (.invokevirtual 120, 3) := by decide +kernel
theorem dX4_through_72 : decode cX4_through 72 = .ok (.aload_n 0, 1) := by decide +kernel
theorem dX4_through_73 : decode cX4_through 73 = .ok (.getfield 63, 3) := by decide +kernel
theorem dX4_through_76 : decode cX4_through 76 = .ok (.aload_n 0, 1) := by decide +kernel
theorem dX4_through_77 : decode cX4_through 77 = .ok (.getfield 53, 3) := by decide +kernel
theorem dX4_through_80 : decode cX4_through 80 = .ok (.aload_n 0, 1) := by decide +kernel
theorem dX4_through_81 : decode cX4_through 81 = .ok (.getfield 57, 3) := by decide +kernel
theorem dX4_through_84 : decode cX4_through 84 = .ok (.aload_n 0, 1) := by decide +kernel
theorem dX4_through_85 : decode cX4_through 85 = .ok (.getfield 37, 3) := by decide +kernel
theorem dX4_through_88 : decode cX4_through 88 = .ok (.invokevirtual 147, 3) := by decide +kernel
theorem dX4_through_91 : decode cX4_through 91 = .ok (.aload_n 0, 1) := by decide +kernel
theorem dX4_through_92 : decode cX4_through 92 = .ok (.invokevirtual 151, 3) := by decide +kernel
theorem dX4_through_95 : decode cX4_through 95 = .ok (.ireturn, 1) := by decide +kernel
set_option maxRecDepth 20000 in
theorem ggX4_cubic_X2_has : GoodIn wsX4_cubic wsX2_has := goodIn_r _ [10, 11, 68, 69, 70] (by decide +kernel) (by decide +kernel)
set_option maxRecDepth 20000 in
theorem gX4_cubic_X2_has : GoodIn wsX4_cubic (wsV RX4 104 RX2 yX2_has wsX2_has) := goodIn_app (goodIn_of _ (by decide +kernel)) ggX4_cubic_X2_has
set_option maxRecDepth 20000 in
theorem ggX4_cubic_X0_read : GoodIn wsX4_cubic wsX0_read := goodIn_r _ [16, 17, 18, 19, 9, 20, 21, 22, 23, 7, 8, 10, 11, 24, 25, 26, 15, 27, 28, 29, 30, 31, 32, 33, 34, 35, 36, 37, 68, 69, 70, 71, 72, 73, 74, 75, 76] (by decide +kernel) (by decide +kernel)
set_option maxRecDepth 20000 in
theorem gX4_cubic_X0_read : GoodIn wsX4_cubic (wsV RX4 128 RX0 yX0_read wsX0_read) := goodIn_app (goodIn_of _ (by decide +kernel)) ggX4_cubic_X0_read
set_option maxRecDepth 20000 in
theorem ggX4_cubic_X0_det : GoodIn wsX4_cubic wsX0_det := goodIn_r _ [41, 42, 28, 30, 37, 29, 35, 36, 71, 72, 73, 74, 75, 76] (by decide +kernel) (by decide +kernel)
set_option maxRecDepth 20000 in
theorem gX4_cubic_X0_det : GoodIn wsX4_cubic (wsV RX4 155 RX0 yX0_det wsX0_det) := goodIn_app (goodIn_of _ (by decide +kernel)) ggX4_cubic_X0_det
set_option maxRecDepth 20000 in
theorem ggX4_cubic_X4_mixedDet : GoodIn wsX4_cubic wsX4_mixedDet := goodIn_r _ [47, 48, 49, 50, 51, 15, 52, 42, 30, 37, 36, 35, 53, 29, 28, 24, 25, 26, 27, 31, 32, 33, 34, 54, 55, 56, 57, 58, 59, 60, 61, 62, 63, 64, 65, 66, 67, 71, 72, 73, 74, 75, 76] (by decide +kernel) (by decide +kernel)
set_option maxRecDepth 20000 in
theorem gX4_cubic_X4_mixedDet : GoodIn wsX4_cubic (wsV RX4 221 RX4 yX4_mixedDet wsX4_mixedDet) := goodIn_app (goodIn_of _ (by decide +kernel)) ggX4_cubic_X4_mixedDet
theorem dX4_cubic_0 : decode cX4_cubic 0 = .ok (.aload_n 0, 1) := by decide +kernel
theorem dX4_cubic_1 : decode cX4_cubic 1 = .ok (.getfield 21, 3) := by decide +kernel
theorem dX4_cubic_4 : decode cX4_cubic 4 = .ok (.iload_n 1, 1) := by decide +kernel
theorem dX4_cubic_5 : decode cX4_cubic 5 = .ok (.invokevirtual 104, 3) := by decide +kernel
theorem dX4_cubic_8 : decode cX4_cubic 8 = .ok (.ifCond .eq 14, 3) := by decide +kernel
theorem dX4_cubic_11 : decode cX4_cubic 11 = .ok (.aload_n 0, 1) := by decide +kernel
theorem dX4_cubic_12 : decode cX4_cubic 12 = .ok (.getfield 21, 3) := by decide +kernel
theorem dX4_cubic_15 : decode cX4_cubic 15 = .ok (.iload_n 2, 1) := by decide +kernel
theorem dX4_cubic_16 : decode cX4_cubic 16 = .ok (.invokevirtual 104, 3) := by decide +kernel
theorem dX4_cubic_19 : decode cX4_cubic 19 = .ok (.ifCond .ne 7, 3) := by decide +kernel
theorem dX4_cubic_22 : decode cX4_cubic 22 = .ok (.ldc2_w 176, 3) := by decide +kernel
theorem dX4_cubic_25 : decode cX4_cubic 25 = .ok (.lreturn, 1) := by decide +kernel
theorem dX4_cubic_26 : decode cX4_cubic 26 = .ok (.iload_n 3, 1) := by decide +kernel
theorem dX4_cubic_27 : decode cX4_cubic 27 = .ok (.ifCond .lt 8, 3) := by decide +kernel
theorem dX4_cubic_30 : decode cX4_cubic 30 = .ok (.iload_n 3, 1) := by decide +kernel
theorem dX4_cubic_31 : decode cX4_cubic 31 = .ok (.iconst 3, 1) := by decide +kernel
theorem dX4_cubic_32 : decode cX4_cubic 32 = .ok (.if_icmp .le 7, 3) := by decide +kernel
theorem dX4_cubic_35 : decode cX4_cubic 35 = .ok (.ldc2_w 178, 3) := by decide +kernel
theorem dX4_cubic_38 : decode cX4_cubic 38 = .ok (.lreturn, 1) := by decide +kernel
theorem dX4_cubic_39 : decode cX4_cubic 39 = .ok (.aload_n 0, 1) := by decide +kernel
theorem dX4_cubic_40 : decode cX4_cubic 40 = .ok (.getfield 53, 3) := by decide +kernel
theorem dX4_cubic_43 : decode cX4_cubic 43 = .ok (.aload_n 0, 1) := by decide +kernel
theorem dX4_cubic_44 : decode cX4_cubic 44 = .ok (.getfield 21, 3) := by decide +kernel
theorem dX4_cubic_47 : decode cX4_cubic 47 = .ok (.iload_n 1, 1) := by decide +kernel
theorem dX4_cubic_48 : decode cX4_cubic 48 = .ok (.invokevirtual 128, 3) := by decide +kernel
theorem dX4_cubic_51 : decode cX4_cubic 51 = .ok (.aload_n 0, 1) := by decide +kernel
theorem dX4_cubic_52 : decode cX4_cubic 52 = .ok (.getfield 57, 3) := by decide +kernel
theorem dX4_cubic_55 : decode cX4_cubic 55 = .ok (.aload_n 0, 1) := by decide +kernel
theorem dX4_cubic_56 : decode cX4_cubic 56 = .ok (.getfield 21, 3) := by decide +kernel
theorem dX4_cubic_59 : decode cX4_cubic 59 = .ok (.iload_n 2, 1) := by decide +kernel
theorem dX4_cubic_60 : decode cX4_cubic 60 = .ok (.invokevirtual 128, 3) := by decide +kernel
theorem dX4_cubic_63 : decode cX4_cubic 63 = .ok (.iload_n 3, 1) := by decide +kernel
theorem dX4_cubic_64 : decode cX4_cubic 64 = .ok (.ifCond .ne 11, 3) := by decide +kernel
theorem dX4_cubic_67 : decode cX4_cubic 67 = .ok (.aload_n 0, 1) := by decide +kernel
theorem dX4_cubic_68 : decode cX4_cubic 68 = .ok (.getfield 53, 3) := by decide +kernel
theorem dX4_cubic_71 : decode cX4_cubic 71 = .ok (.invokevirtual 155, 3) := by decide +kernel
theorem dX4_cubic_74 : decode cX4_cubic 74 = .ok (.lreturn, 1) := by decide +kernel
theorem dX4_cubic_75 : decode cX4_cubic 75 = .ok (.iload_n 3, 1) := by decide +kernel
theorem dX4_cubic_76 : decode cX4_cubic 76 = .ok (.iconst 3, 1) := by decide +kernel
theorem dX4_cubic_77 : decode cX4_cubic 77 = .ok (.if_icmp .ne 11, 3) := by decide +kernel
theorem dX4_cubic_80 : decode cX4_cubic 80 = .ok (.aload_n 0, 1) := by decide +kernel
theorem dX4_cubic_81 : decode cX4_cubic 81 = .ok (.getfield 57, 3) := by decide +kernel
theorem dX4_cubic_84 : decode cX4_cubic 84 = .ok (.invokevirtual 155, 3) := by decide +kernel
theorem dX4_cubic_87 : decode cX4_cubic 87 = .ok (.lreturn, 1) := by decide +kernel
theorem dX4_cubic_88 : decode cX4_cubic 88 = .ok (.iload_n 3, 1) := by decide +kernel
theorem dX4_cubic_89 : decode cX4_cubic 89 = .ok (.iconst 1, 1) := by decide +kernel
theorem dX4_cubic_90 : decode cX4_cubic 90 = .ok (.if_icmp .ne 18, 3) := by decide +kernel
theorem dX4_cubic_93 : decode cX4_cubic 93 = .ok (.aload_n 0, 1) := by decide +kernel
theorem dX4_cubic_94 : decode cX4_cubic 94 = .ok (.aload_n 0, 1) := by decide +kernel
theorem dX4_cubic_95 : decode cX4_cubic 95 = .ok (.getfield 53, 3) := by decide +kernel
theorem dX4_cubic_98 : decode cX4_cubic 98 = .ok (.aload_n 0, 1) := by decide +kernel
theorem dX4_cubic_99 : decode cX4_cubic 99 = .ok (.getfield 57, 3) := by decide +kernel
theorem dX4_cubic_102 : decode cX4_cubic 102 = .ok (.invokevirtual 221, 3) := by decide +kernel
theorem dX4_cubic_105 : decode cX4_cubic 105 = .ok (.goto 15, 3) := by decide +kernel
theorem dX4_cubic_108 : decode cX4_cubic 108 = .ok (.aload_n 0, 1) := by decide +kernel
theorem dX4_cubic_109 : decode cX4_cubic 109 = .ok (.aload_n 0, 1) := by decide +kernel
theorem dX4_cubic_110 : decode cX4_cubic 110 = .ok (.getfield 57, 3) := by decide +kernel
theorem dX4_cubic_113 : decode cX4_cubic 113 = .ok (.aload_n 0, 1) := by decide +kernel
theorem dX4_cubic_114 : decode cX4_cubic 114 = .ok (.getfield 53, 3) := by decide +kernel
theorem dX4_cubic_117 : decode cX4_cubic 117 = .ok (.invokevirtual 221, 3) := by decide +kernel
theorem dX4_cubic_120 : decode cX4_cubic 120 = .ok (.lreturn, 1) := by decide +kernel
set_option maxRecDepth 20000 in
theorem ggX4_cross_X2_has : GoodIn wsX4_cross wsX2_has := goodIn_r _ [12, 13, 150, 151, 152] (by decide +kernel) (by decide +kernel)
set_option maxRecDepth 20000 in
theorem gX4_cross_X2_has : GoodIn wsX4_cross (wsV RX4 104 RX2 yX2_has wsX2_has) := goodIn_app (goodIn_of _ (by decide +kernel)) ggX4_cross_X2_has
set_option maxRecDepth 20000 in
theorem ggX4_cross_X0_read : GoodIn wsX4_cross wsX0_read := goodIn_r _ [18, 19, 20, 21, 11, 22, 23, 24, 25, 9, 10, 12, 13, 26, 27, 28, 17, 29, 30, 31, 32, 33, 34, 35, 36, 37, 38, 39, 150, 151, 152, 153, 154, 155, 156, 157, 158] (by decide +kernel) (by decide +kernel)
set_option maxRecDepth 20000 in
theorem gX4_cross_X0_read : GoodIn wsX4_cross (wsV RX4 128 RX0 yX0_read wsX0_read) := goodIn_app (goodIn_of _ (by decide +kernel)) ggX4_cross_X0_read
set_option maxRecDepth 20000 in
theorem ggX4_cross_X3_read : GoodIn wsX4_cross wsX3_read := goodIn_r _ [44, 45, 20, 21, 11, 22, 23, 24, 25, 9, 10, 12, 13, 46, 47, 48, 43, 49, 50, 51, 52, 150, 151, 152, 159, 160, 161] (by decide +kernel) (by decide +kernel)
set_option maxRecDepth 20000 in
theorem gX4_cross_X3_read : GoodIn wsX4_cross (wsV RX4 120 RX3 yX3_read wsX3_read) := goodIn_app (goodIn_of _ (by decide +kernel)) ggX4_cross_X3_read
set_option maxRecDepth 20000 in
theorem ggX4_cross_X4_setCrossed : GoodIn wsX4_cross wsX4_setCrossed := goodIn_r _ [57, 58, 59, 60, 47, 48, 43, 49, 50, 51, 52, 61, 62, 63, 17, 64, 30, 31, 32, 37, 38, 39, 65, 66, 67, 68, 69, 46, 70, 71, 72, 73, 74, 27, 28, 29, 75, 34, 35, 36, 136, 137, 138, 139, 140, 141, 142, 143, 144, 145, 146, 147, 148, 149, 159, 160, 161, 153, 154, 155, 156, 157, 158] (by decide +kernel) (by decide +kernel)
set_option maxRecDepth 20000 in
theorem gX4_cross_X4_setCrossed : GoodIn wsX4_cross (wsV RX4 225 RX4 yX4_setCrossed wsX4_setCrossed) := goodIn_app (goodIn_of _ (by decide +kernel)) ggX4_cross_X4_setCrossed
set_option maxRecDepth 20000 in
theorem ggX4_cross_X0_isZero : GoodIn wsX4_cross wsX0_isZero := goodIn_r _ [79, 30, 31, 32, 37, 38, 39, 153, 154, 155, 156, 157, 158] (by decide +kernel) (by decide +kernel)
set_option maxRecDepth 20000 in
theorem gX4_cross_X0_isZero : GoodIn wsX4_cross (wsV RX4 87 RX0 yX0_isZero wsX0_isZero) := goodIn_app (goodIn_of _ (by decide +kernel)) ggX4_cross_X0_isZero
set_option maxRecDepth 20000 in
theorem ggX4_cross_X1_clear : GoodIn wsX4_cross wsX1_clear := goodIn_r _ [84, 85, 162, 163, 164] (by decide +kernel) (by decide +kernel)
set_option maxRecDepth 20000 in
theorem gX4_cross_X1_clear : GoodIn wsX4_cross (wsV RX4 228 RX1 yX1_clear wsX1_clear) := goodIn_app (goodIn_of _ (by decide +kernel)) ggX4_cross_X1_clear
set_option maxRecDepth 20000 in
theorem ggX4_cross_X4_fallApart : GoodIn wsX4_cross wsX4_fallApart := goodIn_r _ [89, 90, 58, 80, 81, 82, 83, 84, 85, 91, 92, 93, 17, 94, 95, 32, 39, 38, 37, 96, 31, 30, 26, 27, 28, 29, 33, 34, 35, 36, 97, 98, 99, 100, 101, 102, 56, 103, 104, 105, 106, 43, 107, 46, 47, 48, 49, 50, 51, 52, 108, 109, 110, 111, 69, 112, 113, 114, 115, 116, 117, 118, 119, 120, 121, 122, 123, 124, 125, 60, 126, 127, 128, 129, 130, 131, 132, 133, 134, 135, 136, 137, 138, 139, 140, 141, 142, 143, 144, 145, 146, 147, 148, 149, 162, 163, 164, 159, 160, 161, 153, 154, 155, 156, 157, 158] (by decide +kernel) (by decide +kernel)
set_option maxRecDepth 20000 in
theorem gX4_cross_X4_fallApart : GoodIn wsX4_cross (wsV RX4 231 RX4 yX4_fallApart wsX4_fallApart) := goodIn_app (goodIn_of _ (by decide +kernel)) ggX4_cross_X4_fallApart
theorem dX4_cross_0 : decode cX4_cross 0 = .ok (.aload_n 0, 1) := by decide +kernel
theorem dX4_cross_1 : decode cX4_cross 1 = .ok (.getfield 21, 3) := by decide +kernel
theorem dX4_cross_4 : decode cX4_cross 4 = .ok (.iload_n 1, 1) := by decide +kernel
theorem dX4_cross_5 : decode cX4_cross 5 = .ok (.invokevirtual 104, 3) := by decide +kernel
theorem dX4_cross_8 : decode cX4_cross 8 = .ok (.ifCond .eq 14, 3) := by decide +kernel
theorem dX4_cross_11 : decode cX4_cross 11 = .ok (.aload_n 0, 1) := by decide +kernel
theorem dX4_cross_12 : decode cX4_cross 12 = .ok (.getfield 18, 3) := by decide +kernel
theorem dX4_cross_15 : decode cX4_cross 15 = .ok (.iload_n 2, 1) := by decide +kernel
theorem dX4_cross_16 : decode cX4_cross 16 = .ok (.invokevirtual 104, 3) := by decide +kernel
theorem dX4_cross_19 : decode cX4_cross 19 = .ok (.ifCond .ne 6, 3) := by decide +kernel
theorem dX4_cross_22 : decode cX4_cross 22 = .ok (.ldc 108, 2) := by decide +kernel
theorem dX4_cross_24 : decode cX4_cross 24 = .ok (.ireturn, 1) := by decide +kernel
theorem dX4_cross_25 : decode cX4_cross 25 = .ok (.aload_n 0, 1) := by decide +kernel
theorem dX4_cross_26 : decode cX4_cross 26 = .ok (.getfield 53, 3) := by decide +kernel
theorem dX4_cross_29 : decode cX4_cross 29 = .ok (.aload_n 0, 1) := by decide +kernel
theorem dX4_cross_30 : decode cX4_cross 30 = .ok (.getfield 21, 3) := by decide +kernel
theorem dX4_cross_33 : decode cX4_cross 33 = .ok (.iload_n 1, 1) := by decide +kernel
theorem dX4_cross_34 : decode cX4_cross 34 = .ok (.invokevirtual 128, 3) := by decide +kernel
theorem dX4_cross_37 : decode cX4_cross 37 = .ok (.aload_n 0, 1) := by decide +kernel
theorem dX4_cross_38 : decode cX4_cross 38 = .ok (.getfield 37, 3) := by decide +kernel
theorem dX4_cross_41 : decode cX4_cross 41 = .ok (.aload_n 0, 1) := by decide +kernel
theorem dX4_cross_42 : decode cX4_cross 42 = .ok (.getfield 18, 3) := by decide +kernel
theorem dX4_cross_45 : decode cX4_cross 45 = .ok (.iload_n 2, 1) := by decide +kernel
theorem dX4_cross_46 : decode cX4_cross 46 = .ok (.invokevirtual 120, 3) := by decide +kernel
theorem dX4_cross_49 : decode cX4_cross 49 = .ok (.aload_n 0, 1) := by decide +kernel
theorem dX4_cross_50 : decode cX4_cross 50 = .ok (.aload_n 0, 1) := by decide +kernel
theorem dX4_cross_51 : decode cX4_cross 51 = .ok (.getfield 63, 3) := by decide +kernel
theorem dX4_cross_54 : decode cX4_cross 54 = .ok (.aload_n 0, 1) := by decide +kernel
theorem dX4_cross_55 : decode cX4_cross 55 = .ok (.getfield 53, 3) := by decide +kernel
theorem dX4_cross_58 : decode cX4_cross 58 = .ok (.aload_n 0, 1) := by decide +kernel
theorem dX4_cross_59 : decode cX4_cross 59 = .ok (.getfield 37, 3) := by decide +kernel
theorem dX4_cross_62 : decode cX4_cross 62 = .ok (.invokevirtual 225, 3) := by decide +kernel
theorem dX4_cross_65 : decode cX4_cross 65 = .ok (.aload_n 0, 1) := by decide +kernel
theorem dX4_cross_66 : decode cX4_cross 66 = .ok (.getfield 63, 3) := by decide +kernel
theorem dX4_cross_69 : decode cX4_cross 69 = .ok (.invokevirtual 87, 3) := by decide +kernel
theorem dX4_cross_72 : decode cX4_cross 72 = .ok (.ifCond .eq 12, 3) := by decide +kernel
theorem dX4_cross_75 : decode cX4_cross 75 = .ok (.aload_n 0, 1) := by decide +kernel
theorem dX4_cross_76 : decode cX4_cross 76 = .ok (.getfield 27, 3) := by decide +kernel
theorem dX4_cross_79 : decode cX4_cross 79 = .ok (.invokevirtual 228, 3) := by decide +kernel
theorem dX4_cross_82 : decode cX4_cross 82 = .ok (.iconst 3, 1) := by decide +kernel
theorem dX4_cross_83 : decode cX4_cross 83 = .ok (.ireturn, 1) := by decide +kernel
theorem dX4_cross_84 : decode cX4_cross 84 = .ok (.aload_n 0, 1) := by decide +kernel
theorem dX4_cross_85 : decode cX4_cross 85 = .ok (.aload_n 0, 1) := by decide +kernel
theorem dX4_cross_86 : decode cX4_cross 86 = .ok (.getfield 63, 3) := by decide +kernel
theorem dX4_cross_89 : decode cX4_cross 89 = .ok (.aload_n 0, 1) := by decide +kernel
theorem dX4_cross_90 : decode cX4_cross 90 = .ok (.getfield 27, 3) := by decide +kernel
theorem dX4_cross_93 : decode cX4_cross 93 = .ok (.invokevirtual 231, 3) := by decide +kernel
theorem dX4_cross_96 : decode cX4_cross 96 = .ok (.ireturn, 1) := by decide +kernel
set_option maxRecDepth 20000 in
theorem ggX4_crossing_X1_tell : GoodIn wsX4_crossing wsX1_tell := goodIn_r _ [6, 7, 8, 9, 10, 11, 12, 13, 14, 15, 16, 17, 18, 19, 34, 35, 36, 37, 38, 39] (by decide +kernel) (by decide +kernel)
set_option maxRecDepth 20000 in
theorem gX4_crossing_X1_tell : GoodIn wsX4_crossing (wsV RX4 235 RX1 yX1_tell wsX1_tell) := goodIn_app (goodIn_of _ (by decide +kernel)) ggX4_crossing_X1_tell
theorem dX4_crossing_0 : decode cX4_crossing 0 = .ok (.aload_n 0, 1) := by decide +kernel
theorem dX4_crossing_1 : decode cX4_crossing 1 = .ok (.getfield 27, 3) := by decide +kernel
theorem dX4_crossing_4 : decode cX4_crossing 4 = .ok (.iload_n 1, 1) := by decide +kernel
theorem dX4_crossing_5 : decode cX4_crossing 5 = .ok (.iload_n 2, 1) := by decide +kernel
theorem dX4_crossing_6 : decode cX4_crossing 6 = .ok (.invokevirtual 235, 3) := by decide +kernel
theorem dX4_crossing_9 : decode cX4_crossing 9 = .ok (.lreturn, 1) := by decide +kernel
set_option maxRecDepth 20000 in
theorem ggX4_split_X2_has : GoodIn wsX4_split wsX2_has := goodIn_r _ [10, 11, 124, 125, 126] (by decide +kernel) (by decide +kernel)
set_option maxRecDepth 20000 in
theorem gX4_split_X2_has : GoodIn wsX4_split (wsV RX4 104 RX2 yX2_has wsX2_has) := goodIn_app (goodIn_of _ (by decide +kernel)) ggX4_split_X2_has
set_option maxRecDepth 20000 in
theorem ggX4_split_X0_read : GoodIn wsX4_split wsX0_read := goodIn_r _ [16, 17, 18, 19, 9, 20, 21, 22, 23, 7, 8, 10, 11, 24, 25, 26, 15, 27, 28, 29, 30, 31, 32, 33, 34, 35, 36, 37, 124, 125, 126, 127, 128, 129, 130, 131, 132] (by decide +kernel) (by decide +kernel)
set_option maxRecDepth 20000 in
theorem gX4_split_X0_read : GoodIn wsX4_split (wsV RX4 128 RX0 yX0_read wsX0_read) := goodIn_app (goodIn_of _ (by decide +kernel)) ggX4_split_X0_read
set_option maxRecDepth 20000 in
theorem ggX4_split_X0_det : GoodIn wsX4_split wsX0_det := goodIn_r _ [41, 42, 28, 30, 37, 29, 35, 36, 127, 128, 129, 130, 131, 132] (by decide +kernel) (by decide +kernel)
set_option maxRecDepth 20000 in
theorem gX4_split_X0_det : GoodIn wsX4_split (wsV RX4 155 RX0 yX0_det wsX0_det) := goodIn_app (goodIn_of _ (by decide +kernel)) ggX4_split_X0_det
set_option maxRecDepth 20000 in
theorem ggX4_split_X4_fallApart : GoodIn wsX4_split wsX4_fallApart := goodIn_r _ [47, 48, 49, 50, 51, 52, 53, 54, 55, 56, 57, 58, 15, 59, 42, 30, 37, 36, 35, 60, 29, 28, 24, 25, 26, 27, 31, 32, 33, 34, 61, 62, 63, 64, 65, 66, 46, 67, 68, 69, 70, 71, 72, 73, 74, 75, 76, 77, 78, 79, 80, 81, 82, 83, 84, 85, 86, 87, 88, 89, 90, 91, 92, 93, 94, 95, 96, 97, 98, 99, 100, 101, 102, 103, 104, 105, 106, 107, 108, 109, 110, 111, 112, 113, 114, 115, 116, 117, 118, 119, 120, 121, 122, 123, 133, 134, 135, 136, 137, 138, 127, 128, 129, 130, 131, 132] (by decide +kernel) (by decide +kernel)
set_option maxRecDepth 20000 in
theorem gX4_split_X4_fallApart : GoodIn wsX4_split (wsV RX4 231 RX4 yX4_fallApart wsX4_fallApart) := goodIn_app (goodIn_of _ (by decide +kernel)) ggX4_split_X4_fallApart
theorem dX4_split_0 : decode cX4_split 0 = .ok (.aload_n 0, 1) := by decide +kernel
theorem dX4_split_1 : decode cX4_split 1 = .ok (.getfield 21, 3) := by decide +kernel
theorem dX4_split_4 : decode cX4_split 4 = .ok (.iload_n 1, 1) := by decide +kernel
theorem dX4_split_5 : decode cX4_split 5 = .ok (.invokevirtual 104, 3) := by decide +kernel
theorem dX4_split_8 : decode cX4_split 8 = .ok (.ifCond .ne 6, 3) := by decide +kernel
theorem dX4_split_11 : decode cX4_split 11 = .ok (.ldc 108, 2) := by decide +kernel
theorem dX4_split_13 : decode cX4_split 13 = .ok (.ireturn, 1) := by decide +kernel
theorem dX4_split_14 : decode cX4_split 14 = .ok (.aload_n 0, 1) := by decide +kernel
theorem dX4_split_15 : decode cX4_split 15 = .ok (.getfield 53, 3) := by decide +kernel
theorem dX4_split_18 : decode cX4_split 18 = .ok (.aload_n 0, 1) := by decide +kernel
theorem dX4_split_19 : decode cX4_split 19 = .ok (.getfield 21, 3) := by decide +kernel
theorem dX4_split_22 : decode cX4_split 22 = .ok (.iload_n 1, 1) := by decide +kernel
theorem dX4_split_23 : decode cX4_split 23 = .ok (.invokevirtual 128, 3) := by decide +kernel
theorem dX4_split_26 : decode cX4_split 26 = .ok (.aload_n 0, 1) := by decide +kernel
theorem dX4_split_27 : decode cX4_split 27 = .ok (.getfield 53, 3) := by decide +kernel
theorem dX4_split_30 : decode cX4_split 30 = .ok (.invokevirtual 155, 3) := by decide +kernel
theorem dX4_split_33 : decode cX4_split 33 = .ok (.lconst 0, 1) := by decide +kernel
theorem dX4_split_34 : decode cX4_split 34 = .ok (.lcmp, 1) := by decide +kernel
theorem dX4_split_35 : decode cX4_split 35 = .ok (.ifCond .eq 6, 3) := by decide +kernel
theorem dX4_split_38 : decode cX4_split 38 = .ok (.ldc 138, 2) := by decide +kernel
theorem dX4_split_40 : decode cX4_split 40 = .ok (.ireturn, 1) := by decide +kernel
theorem dX4_split_41 : decode cX4_split 41 = .ok (.aload_n 0, 1) := by decide +kernel
theorem dX4_split_42 : decode cX4_split 42 = .ok (.aload_n 0, 1) := by decide +kernel
theorem dX4_split_43 : decode cX4_split 43 = .ok (.getfield 53, 3) := by decide +kernel
theorem dX4_split_46 : decode cX4_split 46 = .ok (.aload_n 0, 1) := by decide +kernel
theorem dX4_split_47 : decode cX4_split 47 = .ok (.getfield 31, 3) := by decide +kernel
theorem dX4_split_50 : decode cX4_split 50 = .ok (.invokevirtual 231, 3) := by decide +kernel
theorem dX4_split_53 : decode cX4_split 53 = .ok (.ireturn, 1) := by decide +kernel
set_option maxRecDepth 20000 in
theorem ggX4_part_X1_tell : GoodIn wsX4_part wsX1_tell := goodIn_r _ [6, 7, 8, 9, 10, 11, 12, 13, 14, 15, 16, 17, 18, 19, 34, 35, 36, 37, 38, 39] (by decide +kernel) (by decide +kernel)
set_option maxRecDepth 20000 in
theorem gX4_part_X1_tell : GoodIn wsX4_part (wsV RX4 235 RX1 yX1_tell wsX1_tell) := goodIn_app (goodIn_of _ (by decide +kernel)) ggX4_part_X1_tell
theorem dX4_part_0 : decode cX4_part 0 = .ok (.aload_n 0, 1) := by decide +kernel
theorem dX4_part_1 : decode cX4_part 1 = .ok (.getfield 31, 3) := by decide +kernel
theorem dX4_part_4 : decode cX4_part 4 = .ok (.iload_n 1, 1) := by decide +kernel
theorem dX4_part_5 : decode cX4_part 5 = .ok (.iload_n 2, 1) := by decide +kernel
theorem dX4_part_6 : decode cX4_part 6 = .ok (.invokevirtual 235, 3) := by decide +kernel
theorem dX4_part_9 : decode cX4_part 9 = .ok (.lreturn, 1) := by decide +kernel
theorem dX4_shelfOf_0 : decode cX4_shelfOf 0 = .ok (.iload_n 1, 1) := by decide +kernel
theorem dX4_shelfOf_1 : decode cX4_shelfOf 1 = .ok (.tableswitch 42 0 2 #[27, 32, 37], 27) := by decide +kernel
theorem dX4_shelfOf_28 : decode cX4_shelfOf 28 = .ok (.aload_n 0, 1) := by decide +kernel
theorem dX4_shelfOf_29 : decode cX4_shelfOf 29 = .ok (.getfield 14, 3) := by decide +kernel
theorem dX4_shelfOf_32 : decode cX4_shelfOf 32 = .ok (.areturn, 1) := by decide +kernel
theorem dX4_shelfOf_33 : decode cX4_shelfOf 33 = .ok (.aload_n 0, 1) := by decide +kernel
theorem dX4_shelfOf_34 : decode cX4_shelfOf 34 = .ok (.getfield 18, 3) := by decide +kernel
theorem dX4_shelfOf_37 : decode cX4_shelfOf 37 = .ok (.areturn, 1) := by decide +kernel
theorem dX4_shelfOf_38 : decode cX4_shelfOf 38 = .ok (.aload_n 0, 1) := by decide +kernel
theorem dX4_shelfOf_39 : decode cX4_shelfOf 39 = .ok (.getfield 21, 3) := by decide +kernel
theorem dX4_shelfOf_42 : decode cX4_shelfOf 42 = .ok (.areturn, 1) := by decide +kernel
theorem dX4_shelfOf_43 : decode cX4_shelfOf 43 = .ok (.aconst_null, 1) := by decide +kernel
theorem dX4_shelfOf_44 : decode cX4_shelfOf 44 = .ok (.areturn, 1) := by decide +kernel
set_option maxRecDepth 20000 in
theorem ggX4_keepGiven_X3_set : GoodIn wsX4_keepGiven wsX3_set := goodIn_r _ [8, 9, 10, 11, 68, 69, 70] (by decide +kernel) (by decide +kernel)
set_option maxRecDepth 20000 in
theorem gX4_keepGiven_X3_set : GoodIn wsX4_keepGiven (wsV RX4 207 RX3 yX3_set wsX3_set) := goodIn_app (goodIn_of _ (by decide +kernel)) ggX4_keepGiven_X3_set
set_option maxRecDepth 20000 in
theorem ggX4_keepGiven_X3_isWithin : GoodIn wsX4_keepGiven wsX3_isWithin := goodIn_r _ [15, 9, 10, 11, 16, 17, 18, 68, 69, 70] (by decide +kernel) (by decide +kernel)
set_option maxRecDepth 20000 in
theorem gX4_keepGiven_X3_isWithin : GoodIn wsX4_keepGiven (wsV RX4 239 RX3 yX3_isWithin wsX3_isWithin) := goodIn_app (goodIn_of _ (by decide +kernel)) ggX4_keepGiven_X3_isWithin
set_option maxRecDepth 20000 in
theorem ggX4_keepGiven_X3_isZero : GoodIn wsX4_keepGiven wsX3_isZero := goodIn_r _ [22, 9, 10, 11, 68, 69, 70] (by decide +kernel) (by decide +kernel)
set_option maxRecDepth 20000 in
theorem gX4_keepGiven_X3_isZero : GoodIn wsX4_keepGiven (wsV RX4 240 RX3 yX3_isZero wsX3_isZero) := goodIn_app (goodIn_of _ (by decide +kernel)) ggX4_keepGiven_X3_isZero
set_option maxRecDepth 20000 in
theorem ggX4_keepGiven_X2_keepTriple : GoodIn wsX4_keepGiven wsX2_keepTriple := goodIn_r _ [27, 28, 29, 30, 31, 32, 7, 33, 9, 34, 35, 36, 37, 10, 11, 38, 17, 39, 40, 5, 6, 8, 41, 13, 14, 15, 16, 18, 42, 43, 44, 26, 45, 46, 47, 48, 49, 50, 51, 52, 53, 68, 69, 70, 71, 72, 73] (by decide +kernel) (by decide +kernel)
set_option maxRecDepth 20000 in
theorem gX4_keepGiven_X2_keepTriple : GoodIn wsX4_keepGiven (wsV RX4 241 RX2 yX2_keepTriple wsX2_keepTriple) := goodIn_app (goodIn_of _ (by decide +kernel)) ggX4_keepGiven_X2_keepTriple
theorem dX4_keepGiven_0 : decode cX4_keepGiven 0 = .ok (.aload_n 0, 1) := by decide +kernel
theorem dX4_keepGiven_1 : decode cX4_keepGiven 1 = .ok (.getfield 47, 3) := by decide +kernel
theorem dX4_keepGiven_4 : decode cX4_keepGiven 4 = .ok (.iload_n 2, 1) := by decide +kernel
theorem dX4_keepGiven_5 : decode cX4_keepGiven 5 = .ok (.i2l, 1) := by decide +kernel
theorem dX4_keepGiven_6 : decode cX4_keepGiven 6 = .ok (.iload_n 3, 1) := by decide +kernel
theorem dX4_keepGiven_7 : decode cX4_keepGiven 7 = .ok (.i2l, 1) := by decide +kernel
theorem dX4_keepGiven_8 : decode cX4_keepGiven 8 = .ok (.iload 4, 2) := by decide +kernel
theorem dX4_keepGiven_10 : decode cX4_keepGiven 10 = .ok (.i2l, 1) := by decide +kernel
theorem dX4_keepGiven_11 : decode cX4_keepGiven 11 = .ok (.invokevirtual 207, 3) := by decide +kernel
theorem dX4_keepGiven_14 : decode cX4_keepGiven 14 = .ok (.aload_n 0, 1) := by decide +kernel
theorem dX4_keepGiven_15 : decode cX4_keepGiven 15 = .ok (.getfield 47, 3) := by decide +kernel
theorem dX4_keepGiven_18 : decode cX4_keepGiven 18 = .ok (.ldc2_w 81, 3) := by decide +kernel
theorem dX4_keepGiven_21 : decode cX4_keepGiven 21 = .ok (.invokevirtual 239, 3) := by decide +kernel
theorem dX4_keepGiven_24 : decode cX4_keepGiven 24 = .ok (.ifCond .eq 13, 3) := by decide +kernel
theorem dX4_keepGiven_27 : decode cX4_keepGiven 27 = .ok (.aload_n 0, 1) := by decide +kernel
theorem dX4_keepGiven_28 : decode cX4_keepGiven 28 = .ok (.getfield 47, 3) := by decide +kernel
theorem dX4_keepGiven_31 : decode cX4_keepGiven 31 = .ok (.invokevirtual 240, 3) := by decide +kernel
theorem dX4_keepGiven_34 : decode cX4_keepGiven 34 = .ok (.ifCond .eq 6, 3) := by decide +kernel
theorem dX4_keepGiven_37 : decode cX4_keepGiven 37 = .ok (.ldc 91, 2) := by decide +kernel
theorem dX4_keepGiven_39 : decode cX4_keepGiven 39 = .ok (.ireturn, 1) := by decide +kernel
theorem dX4_keepGiven_40 : decode cX4_keepGiven 40 = .ok (.aload_n 1, 1) := by decide +kernel
theorem dX4_keepGiven_41 : decode cX4_keepGiven 41 = .ok (.aload_n 0, 1) := by decide +kernel
theorem dX4_keepGiven_42 : decode cX4_keepGiven 42 = .ok (.getfield 47, 3) := by decide +kernel
theorem dX4_keepGiven_45 : decode cX4_keepGiven 45 = .ok (.invokevirtual 241, 3) := by decide +kernel
theorem dX4_keepGiven_48 : decode cX4_keepGiven 48 = .ok (.ireturn, 1) := by decide +kernel
set_option maxRecDepth 20000 in
theorem ggX4_keepAcross_X2_has : GoodIn wsX4_keepAcross wsX2_has := goodIn_r _ [9, 10, 89, 90, 91] (by decide +kernel) (by decide +kernel)
set_option maxRecDepth 20000 in
theorem gX4_keepAcross_X2_has : GoodIn wsX4_keepAcross (wsV RX4 104 RX2 yX2_has wsX2_has) := goodIn_app (goodIn_of _ (by decide +kernel)) ggX4_keepAcross_X2_has
set_option maxRecDepth 20000 in
theorem ggX4_keepAcross_X3_read : GoodIn wsX4_keepAcross wsX3_read := goodIn_r _ [15, 16, 17, 18, 8, 19, 20, 21, 22, 6, 7, 9, 10, 23, 24, 25, 14, 26, 27, 28, 29, 89, 90, 91, 92, 93, 94] (by decide +kernel) (by decide +kernel)
set_option maxRecDepth 20000 in
theorem gX4_keepAcross_X3_read : GoodIn wsX4_keepAcross (wsV RX4 120 RX3 yX3_read wsX3_read) := goodIn_app (goodIn_of _ (by decide +kernel)) ggX4_keepAcross_X3_read
set_option maxRecDepth 20000 in
theorem ggX4_keepAcross_X3_setAcross : GoodIn wsX4_keepAcross wsX3_setAcross := goodIn_r _ [33, 28, 29, 27, 23, 24, 25, 14, 26, 92, 93, 94] (by decide +kernel) (by decide +kernel)
set_option maxRecDepth 20000 in
theorem gX4_keepAcross_X3_setAcross : GoodIn wsX4_keepAcross (wsV RX4 245 RX3 yX3_setAcross wsX3_setAcross) := goodIn_app (goodIn_of _ (by decide +kernel)) ggX4_keepAcross_X3_setAcross
set_option maxRecDepth 20000 in
theorem ggX4_keepAcross_X4_keepTripleUnlessZero : GoodIn wsX4_keepAcross wsX4_keepTripleUnlessZero := goodIn_r _ [38, 4, 39, 40, 41, 42, 14, 43, 27, 28, 29, 44, 45, 46, 8, 47, 48, 49, 50, 51, 52, 53, 54, 55, 56, 57, 58, 37, 59, 23, 24, 25, 26, 60, 61, 62, 63, 64, 65, 66, 67, 68, 69, 10, 20, 21, 70, 71, 72, 73, 74, 75, 76, 77, 78, 79, 80, 81, 82, 83, 84, 85, 86, 87, 88, 92, 93, 94, 89, 90, 91] (by decide +kernel) (by decide +kernel)
set_option maxRecDepth 20000 in
theorem gX4_keepAcross_X4_keepTripleUnlessZero : GoodIn wsX4_keepAcross (wsV RX4 187 RX4 yX4_keepTripleUnlessZero wsX4_keepTripleUnlessZero) := goodIn_app (goodIn_of _ (by decide +kernel)) ggX4_keepAcross_X4_keepTripleUnlessZero
theorem dX4_keepAcross_0 : decode cX4_keepAcross 0 = .ok (.aload_n 1, 1) := by decide +kernel
theorem dX4_keepAcross_1 : decode cX4_keepAcross 1 = .ok (.iload_n 2, 1) := by decide +kernel
theorem dX4_keepAcross_2 : decode cX4_keepAcross 2 = .ok (.invokevirtual 104, 3) := by decide +kernel
theorem dX4_keepAcross_5 : decode cX4_keepAcross 5 = .ok (.ifCond .eq 11, 3) := by decide +kernel
theorem dX4_keepAcross_8 : decode cX4_keepAcross 8 = .ok (.aload_n 1, 1) := by decide +kernel
theorem dX4_keepAcross_9 : decode cX4_keepAcross 9 = .ok (.iload_n 3, 1) := by decide +kernel
theorem dX4_keepAcross_10 : decode cX4_keepAcross 10 = .ok (.invokevirtual 104, 3) := by decide +kernel
theorem dX4_keepAcross_13 : decode cX4_keepAcross 13 = .ok (.ifCond .ne 6, 3) := by decide +kernel
theorem dX4_keepAcross_16 : decode cX4_keepAcross 16 = .ok (.ldc 108, 2) := by decide +kernel
theorem dX4_keepAcross_18 : decode cX4_keepAcross 18 = .ok (.ireturn, 1) := by decide +kernel
theorem dX4_keepAcross_19 : decode cX4_keepAcross 19 = .ok (.aload_n 0, 1) := by decide +kernel
theorem dX4_keepAcross_20 : decode cX4_keepAcross 20 = .ok (.getfield 37, 3) := by decide +kernel
theorem dX4_keepAcross_23 : decode cX4_keepAcross 23 = .ok (.aload_n 1, 1) := by decide +kernel
theorem dX4_keepAcross_24 : decode cX4_keepAcross 24 = .ok (.iload_n 2, 1) := by decide +kernel
theorem dX4_keepAcross_25 : decode cX4_keepAcross 25 = .ok (.invokevirtual 120, 3) := by decide +kernel
theorem dX4_keepAcross_28 : decode cX4_keepAcross 28 = .ok (.aload_n 0, 1) := by decide +kernel
theorem dX4_keepAcross_29 : decode cX4_keepAcross 29 = .ok (.getfield 41, 3) := by decide +kernel
theorem dX4_keepAcross_32 : decode cX4_keepAcross 32 = .ok (.aload_n 1, 1) := by decide +kernel
theorem dX4_keepAcross_33 : decode cX4_keepAcross 33 = .ok (.iload_n 3, 1) := by decide +kernel
theorem dX4_keepAcross_34 : decode cX4_keepAcross 34 = .ok (.invokevirtual 120, 3) := by decide +kernel
theorem dX4_keepAcross_37 : decode cX4_keepAcross 37 = .ok (.aload_n 0, 1) := by decide +kernel
theorem dX4_keepAcross_38 : decode cX4_keepAcross 38 = .ok (.getfield 47, 3) := by decide +kernel
theorem dX4_keepAcross_41 : decode cX4_keepAcross 41 = .ok (.aload_n 0, 1) := by decide +kernel
theorem dX4_keepAcross_42 : decode cX4_keepAcross 42 = .ok (.getfield 37, 3) := by decide +kernel
theorem dX4_keepAcross_45 : decode cX4_keepAcross 45 = .ok (.aload_n 0, 1) := by decide +kernel
theorem dX4_keepAcross_46 : decode cX4_keepAcross 46 = .ok (.getfield 41, 3) := by decide +kernel
theorem dX4_keepAcross_49 : decode cX4_keepAcross 49 = .ok (.invokevirtual 245, 3) := by decide +kernel
theorem dX4_keepAcross_52 : decode cX4_keepAcross 52 = .ok (.aload_n 0, 1) := by decide +kernel
theorem dX4_keepAcross_53 : decode cX4_keepAcross 53 = .ok (.aload 4, 2) := by decide +kernel
theorem dX4_keepAcross_55 : decode cX4_keepAcross 55 = .ok (.invokevirtual 187, 3) := by decide +kernel
theorem dX4_keepAcross_58 : decode cX4_keepAcross 58 = .ok (.ireturn, 1) := by decide +kernel
set_option maxRecDepth 20000 in
theorem ggX4_keepTripleUnlessZero_X3_isZero : GoodIn wsX4_keepTripleUnlessZero wsX3_isZero := goodIn_r _ [7, 8, 9, 10, 65, 66, 67] (by decide +kernel) (by decide +kernel)
set_option maxRecDepth 20000 in
theorem gX4_keepTripleUnlessZero_X3_isZero : GoodIn wsX4_keepTripleUnlessZero (wsV RX4 240 RX3 yX3_isZero wsX3_isZero) := goodIn_app (goodIn_of _ (by decide +kernel)) ggX4_keepTripleUnlessZero_X3_isZero
