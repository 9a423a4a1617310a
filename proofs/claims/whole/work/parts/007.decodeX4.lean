set_option maxRecDepth 20000 in
theorem ggX4_init_X2_init : GoodIn wsX4_init wsX2_init := goodIn_r _ [33, 34, 2, 3, 35, 29, 36, 37, 52, 53, 54] (by decide +kernel) (by decide +kernel)
set_option maxRecDepth 20000 in
theorem gX4_init_X2_init : GoodIn wsX4_init (wsX2_init) := ggX4_init_X2_init
set_option maxRecDepth 20000 in
theorem ggX4_init_X1_init : GoodIn wsX4_init wsX1_init := goodIn_r _ [40, 41, 2, 3, 42, 16, 17, 43, 44, 45, 46, 47, 48, 72, 73, 74, 69, 70, 71] (by decide +kernel) (by decide +kernel)
set_option maxRecDepth 20000 in
theorem gX4_init_X1_init : GoodIn wsX4_init (wsX1_init) := ggX4_init_X1_init
set_option maxRecDepth 20000 in
theorem ggX4_init_X3_init : GoodIn wsX4_init wsX3_init := goodIn_r _ [47, 48, 2, 3] (by decide +kernel) (by decide +kernel)
set_option maxRecDepth 20000 in
theorem gX4_init_X3_init_n36 : GoodIn wsX4_init (wsX3_init) := ggX4_init_X3_init
set_option maxRecDepth 20000 in
theorem ggX4_init_X0_init : GoodIn wsX4_init wsX0_init := goodIn_r _ [50, 51, 2, 3] (by decide +kernel) (by decide +kernel)
set_option maxRecDepth 20000 in
theorem gX4_init_X0_init_n52 : GoodIn wsX4_init (wsX0_init) := ggX4_init_X0_init
theorem dX4_init_0 : decode cX4_init 0 = .ok (.aload_n 0, 1) := by decide +kernel
theorem dX4_init_1 : decode cX4_init 1 = .ok (.invokespecial 1, 3) := by decide +kernel
theorem dX4_init_4 : decode cX4_init 4 = .ok (.aload_n 0, 1) := by decide +kernel
theorem dX4_init_5 : decode cX4_init 5 = .ok (.new 7, 3) := by decide +kernel
theorem dX4_init_8 : decode cX4_init 8 = .ok (.dup, 1) := by decide +kernel
theorem dX4_init_9 : decode cX4_init 9 = .ok (.iconst 3, 1) := by decide +kernel
theorem dX4_init_10 : decode cX4_init 10 = .ok (.invokespecial 11, 3) := by decide +kernel
theorem dX4_init_13 : decode cX4_init 13 = .ok (.putfield 14, 3) := by decide +kernel
theorem dX4_init_16 : decode cX4_init 16 = .ok (.aload_n 0, 1) := by decide +kernel
theorem dX4_init_17 : decode cX4_init 17 = .ok (.new 7, 3) := by decide +kernel
theorem dX4_init_20 : decode cX4_init 20 = .ok (.dup, 1) := by decide +kernel
theorem dX4_init_21 : decode cX4_init 21 = .ok (.iconst 3, 1) := by decide +kernel
theorem dX4_init_22 : decode cX4_init 22 = .ok (.invokespecial 11, 3) := by decide +kernel
theorem dX4_init_25 : decode cX4_init 25 = .ok (.putfield 18, 3) := by decide +kernel
theorem dX4_init_28 : decode cX4_init 28 = .ok (.aload_n 0, 1) := by decide +kernel
theorem dX4_init_29 : decode cX4_init 29 = .ok (.new 7, 3) := by decide +kernel
theorem dX4_init_32 : decode cX4_init 32 = .ok (.dup, 1) := by decide +kernel
theorem dX4_init_33 : decode cX4_init 33 = .ok (.bipush 6, 2) := by decide +kernel
theorem dX4_init_35 : decode cX4_init 35 = .ok (.invokespecial 11, 3) := by decide +kernel
theorem dX4_init_38 : decode cX4_init 38 = .ok (.putfield 21, 3) := by decide +kernel
theorem dX4_init_41 : decode cX4_init 41 = .ok (.aload_n 0, 1) := by decide +kernel
theorem dX4_init_42 : decode cX4_init 42 = .ok (.new 24, 3) := by decide +kernel
theorem dX4_init_45 : decode cX4_init 45 = .ok (.dup, 1) := by decide +kernel
theorem dX4_init_46 : decode cX4_init 46 = .ok (.invokespecial 26, 3) := by decide +kernel
theorem dX4_init_49 : decode cX4_init 49 = .ok (.putfield 27, 3) := by decide +kernel
theorem dX4_init_52 : decode cX4_init 52 = .ok (.aload_n 0, 1) := by decide +kernel
theorem dX4_init_53 : decode cX4_init 53 = .ok (.new 24, 3) := by decide +kernel
theorem dX4_init_56 : decode cX4_init 56 = .ok (.dup, 1) := by decide +kernel
theorem dX4_init_57 : decode cX4_init 57 = .ok (.invokespecial 26, 3) := by decide +kernel
theorem dX4_init_60 : decode cX4_init 60 = .ok (.putfield 31, 3) := by decide +kernel
theorem dX4_init_63 : decode cX4_init 63 = .ok (.aload_n 0, 1) := by decide +kernel
theorem dX4_init_64 : decode cX4_init 64 = .ok (.new 34, 3) := by decide +kernel
theorem dX4_init_67 : decode cX4_init 67 = .ok (.dup, 1) := by decide +kernel
theorem dX4_init_68 : decode cX4_init 68 = .ok (.invokespecial 36, 3) := by decide +kernel
theorem dX4_init_71 : decode cX4_init 71 = .ok (.putfield 37, 3) := by decide +kernel
theorem dX4_init_74 : decode cX4_init 74 = .ok (.aload_n 0, 1) := by decide +kernel
theorem dX4_init_75 : decode cX4_init 75 = .ok (.new 34, 3) := by decide +kernel
theorem dX4_init_78 : decode cX4_init 78 = .ok (.dup, 1) := by decide +kernel
theorem dX4_init_79 : decode cX4_init 79 = .ok (.invokespecial 36, 3) := by decide +kernel
theorem dX4_init_82 : decode cX4_init 82 = .ok (.putfield 41, 3) := by decide +kernel
theorem dX4_init_85 : decode cX4_init 85 = .ok (.aload_n 0, 1) := by decide +kernel
theorem dX4_init_86 : decode cX4_init 86 = .ok (.new 34, 3) := by decide +kernel
theorem dX4_init_89 : decode cX4_init 89 = .ok (.dup, 1) := by decide +kernel
theorem dX4_init_90 : decode cX4_init 90 = .ok (.invokespecial 36, 3) := by decide +kernel
theorem dX4_init_93 : decode cX4_init 93 = .ok (.putfield 44, 3) := by decide +kernel
theorem dX4_init_96 : decode cX4_init 96 = .ok (.aload_n 0, 1) := by decide +kernel
theorem dX4_init_97 : decode cX4_init 97 = .ok (.new 34, 3) := by decide +kernel
theorem dX4_init_100 : decode cX4_init 100 = .ok (.dup, 1) := by decide +kernel
theorem dX4_init_101 : decode cX4_init 101 = .ok (.invokespecial 36, 3) := by decide +kernel
theorem dX4_init_104 : decode cX4_init 104 = .ok (.putfield 47, 3) := by decide +kernel
theorem dX4_init_107 : decode cX4_init 107 = .ok (.aload_n 0, 1) := by decide +kernel
theorem dX4_init_108 : decode cX4_init 108 = .ok (.new 50, 3) := by decide +kernel
theorem dX4_init_111 : decode cX4_init 111 = .ok (.dup, 1) := by decide +kernel
theorem dX4_init_112 : decode cX4_init 112 = .ok (.invokespecial 52, 3) := by decide +kernel
theorem dX4_init_115 : decode cX4_init 115 = .ok (.putfield 53, 3) := by decide +kernel
theorem dX4_init_118 : decode cX4_init 118 = .ok (.aload_n 0, 1) := by decide +kernel
theorem dX4_init_119 : decode cX4_init 119 = .ok (.new 50, 3) := by decide +kernel
theorem dX4_init_122 : decode cX4_init 122 = .ok (.dup, 1) := by decide +kernel
theorem dX4_init_123 : decode cX4_init 123 = .ok (.invokespecial 52, 3) := by decide +kernel
theorem dX4_init_126 : decode cX4_init 126 = .ok (.putfield 57, 3) := by decide +kernel
theorem dX4_init_129 : decode cX4_init 129 = .ok (.aload_n 0, 1) := by decide +kernel
theorem dX4_init_130 : decode cX4_init 130 = .ok (.new 50, 3) := by decide +kernel
theorem dX4_init_133 : decode cX4_init 133 = .ok (.dup, 1) := by decide +kernel
theorem dX4_init_134 : decode cX4_init 134 = .ok (.invokespecial 52, 3) := by decide +kernel
theorem dX4_init_137 : decode cX4_init 137 = .ok (.putfield 60, 3) := by decide +kernel
theorem dX4_init_140 : decode cX4_init 140 = .ok (.aload_n 0, 1) := by decide +kernel
theorem dX4_init_141 : decode cX4_init 141 = .ok (.new 50, 3) := by decide +kernel
theorem dX4_init_144 : decode cX4_init 144 = .ok (.dup, 1) := by decide +kernel
theorem dX4_init_145 : decode cX4_init 145 = .ok (.invokespecial 52, 3) := by decide +kernel
theorem dX4_init_148 : decode cX4_init 148 = .ok (.putfield 63, 3) := by decide +kernel
theorem dX4_init_151 : decode cX4_init 151 = .ok (.aload_n 0, 1) := by decide +kernel
theorem dX4_init_152 : decode cX4_init 152 = .ok (.iconst 5, 1) := by decide +kernel
theorem dX4_init_153 : decode cX4_init 153 = .ok (.newarray .int, 2) := by decide +kernel
theorem dX4_init_155 : decode cX4_init 155 = .ok (.putfield 66, 3) := by decide +kernel
theorem dX4_init_158 : decode cX4_init 158 = .ok (.return_, 1) := by decide +kernel
set_option maxRecDepth 20000 in
theorem ggX4_point_X4_keepGiven : GoodIn wsX4_point wsX4_keepGiven := goodIn_r _ [6, 7, 8, 9, 10, 11, 12, 13, 14, 15, 16, 17, 18, 19, 20, 21, 22, 5, 23, 24, 25, 26, 27, 28, 29, 30, 31, 32, 33, 34, 35, 36, 37, 38, 39, 40, 41, 42, 43, 44, 45, 46, 47, 48, 49, 50, 51, 52, 53, 54, 55, 56, 57, 58, 59, 60, 61, 62, 63, 64, 65, 66, 67, 68, 69, 70, 71, 72, 73, 74, 75, 76, 77, 78] (by decide +kernel) (by decide +kernel)
set_option maxRecDepth 20000 in
theorem gX4_point_X4_keepGiven : GoodIn wsX4_point (wsV RX4 70 RX4 yX4_keepGiven wsX4_keepGiven) := goodIn_app (goodIn_of _ (by decide +kernel)) ggX4_point_X4_keepGiven
theorem dX4_point_0 : decode cX4_point 0 = .ok (.aload_n 0, 1) := by decide +kernel
theorem dX4_point_1 : decode cX4_point 1 = .ok (.aload_n 0, 1) := by decide +kernel
theorem dX4_point_2 : decode cX4_point 2 = .ok (.getfield 14, 3) := by decide +kernel
theorem dX4_point_5 : decode cX4_point 5 = .ok (.iload_n 1, 1) := by decide +kernel
theorem dX4_point_6 : decode cX4_point 6 = .ok (.iload_n 2, 1) := by decide +kernel
theorem dX4_point_7 : decode cX4_point 7 = .ok (.iload_n 3, 1) := by decide +kernel
theorem dX4_point_8 : decode cX4_point 8 = .ok (.invokevirtual 70, 3) := by decide +kernel
theorem dX4_point_11 : decode cX4_point 11 = .ok (.ireturn, 1) := by decide +kernel
set_option maxRecDepth 20000 in
theorem ggX4_line_X4_keepGiven : GoodIn wsX4_line wsX4_keepGiven := goodIn_r _ [6, 7, 8, 9, 10, 11, 12, 13, 14, 15, 16, 17, 18, 19, 20, 21, 22, 5, 23, 24, 25, 26, 27, 28, 29, 30, 31, 32, 33, 34, 35, 36, 37, 38, 39, 40, 41, 42, 43, 44, 45, 46, 47, 48, 49, 50, 51, 52, 53, 54, 55, 56, 57, 58, 59, 60, 61, 62, 63, 64, 65, 66, 67, 68, 69, 70, 71, 72, 73, 74, 75, 76, 77, 78] (by decide +kernel) (by decide +kernel)
set_option maxRecDepth 20000 in
theorem gX4_line_X4_keepGiven : GoodIn wsX4_line (wsV RX4 70 RX4 yX4_keepGiven wsX4_keepGiven) := goodIn_app (goodIn_of _ (by decide +kernel)) ggX4_line_X4_keepGiven
theorem dX4_line_0 : decode cX4_line 0 = .ok (.aload_n 0, 1) := by decide +kernel
theorem dX4_line_1 : decode cX4_line 1 = .ok (.aload_n 0, 1) := by decide +kernel
theorem dX4_line_2 : decode cX4_line 2 = .ok (.getfield 18, 3) := by decide +kernel
theorem dX4_line_5 : decode cX4_line 5 = .ok (.iload_n 1, 1) := by decide +kernel
theorem dX4_line_6 : decode cX4_line 6 = .ok (.iload_n 2, 1) := by decide +kernel
theorem dX4_line_7 : decode cX4_line 7 = .ok (.iload_n 3, 1) := by decide +kernel
theorem dX4_line_8 : decode cX4_line 8 = .ok (.invokevirtual 70, 3) := by decide +kernel
theorem dX4_line_11 : decode cX4_line 11 = .ok (.ireturn, 1) := by decide +kernel
set_option maxRecDepth 20000 in
theorem ggX4_conic_X0_setQuadratic : GoodIn wsX4_conic wsX0_setQuadratic := goodIn_r _ [9, 10, 11, 12, 81, 82, 83, 84, 85, 86] (by decide +kernel) (by decide +kernel)
set_option maxRecDepth 20000 in
theorem gX4_conic_X0_setQuadratic : GoodIn wsX4_conic (wsV RX4 74 RX0 yX0_setQuadratic wsX0_setQuadratic) := goodIn_app (goodIn_of _ (by decide +kernel)) ggX4_conic_X0_setQuadratic
set_option maxRecDepth 20000 in
theorem ggX4_conic_X0_setRest : GoodIn wsX4_conic wsX0_setRest := goodIn_r _ [16, 17, 18, 19, 81, 82, 83, 84, 85, 86] (by decide +kernel) (by decide +kernel)
set_option maxRecDepth 20000 in
theorem gX4_conic_X0_setRest : GoodIn wsX4_conic (wsV RX4 78 RX0 yX0_setRest wsX0_setRest) := goodIn_app (goodIn_of _ (by decide +kernel)) ggX4_conic_X0_setRest
set_option maxRecDepth 20000 in
theorem ggX4_conic_X0_isWithin : GoodIn wsX4_conic wsX0_isWithin := goodIn_r _ [23, 10, 11, 12, 17, 18, 19, 24, 25, 26, 81, 82, 83, 84, 85, 86] (by decide +kernel) (by decide +kernel)
set_option maxRecDepth 20000 in
theorem gX4_conic_X0_isWithin : GoodIn wsX4_conic (wsV RX4 83 RX0 yX0_isWithin wsX0_isWithin) := goodIn_app (goodIn_of _ (by decide +kernel)) ggX4_conic_X0_isWithin
set_option maxRecDepth 20000 in
theorem ggX4_conic_X0_isZero : GoodIn wsX4_conic wsX0_isZero := goodIn_r _ [30, 10, 11, 12, 17, 18, 19, 81, 82, 83, 84, 85, 86] (by decide +kernel) (by decide +kernel)
set_option maxRecDepth 20000 in
theorem gX4_conic_X0_isZero : GoodIn wsX4_conic (wsV RX4 87 RX0 yX0_isZero wsX0_isZero) := goodIn_app (goodIn_of _ (by decide +kernel)) ggX4_conic_X0_isZero
set_option maxRecDepth 20000 in
theorem ggX4_conic_X2_keepForm : GoodIn wsX4_conic wsX2_keepForm := goodIn_r _ [35, 36, 37, 38, 39, 40, 8, 41, 10, 42, 43, 44, 45, 11, 12, 17, 18, 19, 46, 25, 47, 48, 49, 50, 51, 52, 6, 7, 9, 53, 14, 15, 16, 54, 21, 22, 23, 24, 26, 55, 56, 57, 34, 58, 59, 60, 61, 62, 63, 64, 65, 66, 81, 82, 83, 84, 85, 86, 87, 88, 89] (by decide +kernel) (by decide +kernel)
set_option maxRecDepth 20000 in
theorem gX4_conic_X2_keepForm : GoodIn wsX4_conic (wsV RX4 92 RX2 yX2_keepForm wsX2_keepForm) := goodIn_app (goodIn_of _ (by decide +kernel)) ggX4_conic_X2_keepForm
theorem dX4_conic_0 : decode cX4_conic 0 = .ok (.aload_n 0, 1) := by decide +kernel
theorem dX4_conic_1 : decode cX4_conic 1 = .ok (.getfield 63, 3) := by decide +kernel
theorem dX4_conic_4 : decode cX4_conic 4 = .ok (.iload_n 1, 1) := by decide +kernel
theorem dX4_conic_5 : decode cX4_conic 5 = .ok (.i2l, 1) := by decide +kernel
theorem dX4_conic_6 : decode cX4_conic 6 = .ok (.iload_n 2, 1) := by decide +kernel
theorem dX4_conic_7 : decode cX4_conic 7 = .ok (.i2l, 1) := by decide +kernel
theorem dX4_conic_8 : decode cX4_conic 8 = .ok (.iload_n 3, 1) := by decide +kernel
theorem dX4_conic_9 : decode cX4_conic 9 = .ok (.i2l, 1) := by decide +kernel
theorem dX4_conic_10 : decode cX4_conic 10 = .ok (.invokevirtual 74, 3) := by decide +kernel
theorem dX4_conic_13 : decode cX4_conic 13 = .ok (.aload_n 0, 1) := by decide +kernel
theorem dX4_conic_14 : decode cX4_conic 14 = .ok (.getfield 63, 3) := by decide +kernel
theorem dX4_conic_17 : decode cX4_conic 17 = .ok (.iload 4, 2) := by decide +kernel
theorem dX4_conic_19 : decode cX4_conic 19 = .ok (.i2l, 1) := by decide +kernel
theorem dX4_conic_20 : decode cX4_conic 20 = .ok (.iload 5, 2) := by decide +kernel
theorem dX4_conic_22 : decode cX4_conic 22 = .ok (.i2l, 1) := by decide +kernel
theorem dX4_conic_23 : decode cX4_conic 23 = .ok (.iload 6, 2) := by decide +kernel
theorem dX4_conic_25 : decode cX4_conic 25 = .ok (.i2l, 1) := by decide +kernel
theorem dX4_conic_26 : decode cX4_conic 26 = .ok (.invokevirtual 78, 3) := by decide +kernel
theorem dX4_conic_29 : decode cX4_conic 29 = .ok (.aload_n 0, 1) := by decide +kernel
theorem dX4_conic_30 : decode cX4_conic 30 = .ok (.getfield 63, 3) := by decide +kernel
theorem dX4_conic_33 : decode cX4_conic 33 = .ok (.ldc2_w 81, 3) := by decide +kernel
theorem dX4_conic_36 : decode cX4_conic 36 = .ok (.invokevirtual 83, 3) := by decide +kernel
theorem dX4_conic_39 : decode cX4_conic 39 = .ok (.ifCond .eq 13, 3) := by decide +kernel
theorem dX4_conic_42 : decode cX4_conic 42 = .ok (.aload_n 0, 1) := by decide +kernel
theorem dX4_conic_43 : decode cX4_conic 43 = .ok (.getfield 63, 3) := by decide +kernel
theorem dX4_conic_46 : decode cX4_conic 46 = .ok (.invokevirtual 87, 3) := by decide +kernel
theorem dX4_conic_49 : decode cX4_conic 49 = .ok (.ifCond .eq 6, 3) := by decide +kernel
theorem dX4_conic_52 : decode cX4_conic 52 = .ok (.ldc 91, 2) := by decide +kernel
theorem dX4_conic_54 : decode cX4_conic 54 = .ok (.ireturn, 1) := by decide +kernel
theorem dX4_conic_55 : decode cX4_conic 55 = .ok (.aload_n 0, 1) := by decide +kernel
theorem dX4_conic_56 : decode cX4_conic 56 = .ok (.getfield 21, 3) := by decide +kernel
theorem dX4_conic_59 : decode cX4_conic 59 = .ok (.aload_n 0, 1) := by decide +kernel
theorem dX4_conic_60 : decode cX4_conic 60 = .ok (.getfield 63, 3) := by decide +kernel
theorem dX4_conic_63 : decode cX4_conic 63 = .ok (.invokevirtual 92, 3) := by decide +kernel
theorem dX4_conic_66 : decode cX4_conic 66 = .ok (.ireturn, 1) := by decide +kernel
set_option maxRecDepth 20000 in
theorem ggX4_count_X4_shelfOf : GoodIn wsX4_count wsX4_shelfOf := goodIn_r _ [6, 7, 8, 9, 13, 14, 15, 16, 17, 18, 19, 20, 21, 22, 23, 24, 25, 26] (by decide +kernel) (by decide +kernel)
set_option maxRecDepth 20000 in
theorem gX4_count_X4_shelfOf : GoodIn wsX4_count (wsV RX4 96 RX4 yX4_shelfOf wsX4_shelfOf) := goodIn_app (goodIn_of _ (by decide +kernel)) ggX4_count_X4_shelfOf
theorem dX4_count_0 : decode cX4_count 0 = .ok (.aload_n 0, 1) := by decide +kernel
theorem dX4_count_1 : decode cX4_count 1 = .ok (.iload_n 1, 1) := by decide +kernel
theorem dX4_count_2 : decode cX4_count 2 = .ok (.invokevirtual 96, 3) := by decide +kernel
theorem dX4_count_5 : decode cX4_count 5 = .ok (.astore_n 2, 1) := by decide +kernel
theorem dX4_count_6 : decode cX4_count 6 = .ok (.aload_n 2, 1) := by decide +kernel
theorem dX4_count_7 : decode cX4_count 7 = .ok (.ifnonnull 8, 3) := by decide +kernel
theorem dX4_count_10 : decode cX4_count 10 = .ok (.ldc 91, 2) := by decide +kernel
theorem dX4_count_12 : decode cX4_count 12 = .ok (.goto 7, 3) := by decide +kernel
theorem dX4_count_15 : decode cX4_count 15 = .ok (.aload_n 2, 1) := by decide +kernel
theorem dX4_count_16 : decode cX4_count 16 = .ok (.getfield 100, 3) := by decide +kernel
theorem dX4_count_19 : decode cX4_count 19 = .ok (.ireturn, 1) := by decide +kernel
set_option maxRecDepth 20000 in
theorem ggX4_number_X4_shelfOf : GoodIn wsX4_number wsX4_shelfOf := goodIn_r _ [7, 8, 9, 10, 27, 28, 29, 30, 31, 32, 33, 34, 35, 36, 37, 38, 39, 40] (by decide +kernel) (by decide +kernel)
set_option maxRecDepth 20000 in
theorem gX4_number_X4_shelfOf : GoodIn wsX4_number (wsV RX4 96 RX4 yX4_shelfOf wsX4_shelfOf) := goodIn_app (goodIn_of _ (by decide +kernel)) ggX4_number_X4_shelfOf
set_option maxRecDepth 20000 in
theorem ggX4_number_X2_has : GoodIn wsX4_number wsX2_has := goodIn_r _ [15, 16, 24, 25, 26] (by decide +kernel) (by decide +kernel)
set_option maxRecDepth 20000 in
theorem gX4_number_X2_has : GoodIn wsX4_number (wsV RX4 104 RX2 yX2_has wsX2_has) := goodIn_app (goodIn_of _ (by decide +kernel)) ggX4_number_X2_has
set_option maxRecDepth 20000 in
theorem ggX4_number_X2_get : GoodIn wsX4_number wsX2_get := goodIn_r _ [20, 21, 22, 23, 12, 13, 14, 15, 16, 24, 25, 26] (by decide +kernel) (by decide +kernel)
set_option maxRecDepth 20000 in
theorem gX4_number_X2_get : GoodIn wsX4_number (wsV RX4 112 RX2 yX2_get wsX2_get) := goodIn_app (goodIn_of _ (by decide +kernel)) ggX4_number_X2_get
theorem dX4_number_0 : decode cX4_number 0 = .ok (.aload_n 0, 1) := by decide +kernel
theorem dX4_number_1 : decode cX4_number 1 = .ok (.iload_n 1, 1) := by decide +kernel
theorem dX4_number_2 : decode cX4_number 2 = .ok (.invokevirtual 96, 3) := by decide +kernel
theorem dX4_number_5 : decode cX4_number 5 = .ok (.astore 4, 2) := by decide +kernel
theorem dX4_number_7 : decode cX4_number 7 = .ok (.aload 4, 2) := by decide +kernel
theorem dX4_number_9 : decode cX4_number 9 = .ok (.ifnonnull 6, 3) := by decide +kernel
theorem dX4_number_12 : decode cX4_number 12 = .ok (.ldc 91, 2) := by decide +kernel
theorem dX4_number_14 : decode cX4_number 14 = .ok (.ireturn, 1) := by decide +kernel
theorem dX4_number_15 : decode cX4_number 15 = .ok (.aload 4, 2) := by decide +kernel
theorem dX4_number_17 : decode cX4_number 17 = .ok (.iload_n 2, 1) := by decide +kernel
theorem dX4_number_18 : decode cX4_number 18 = .ok (.invokevirtual 104, 3) := by decide +kernel
theorem dX4_number_21 : decode cX4_number 21 = .ok (.ifCond .ne 6, 3) := by decide +kernel
theorem dX4_number_24 : decode cX4_number 24 = .ok (.ldc 108, 2) := by decide +kernel
theorem dX4_number_26 : decode cX4_number 26 = .ok (.ireturn, 1) := by decide +kernel
theorem dX4_number_27 : decode cX4_number 27 = .ok (.iload_n 3, 1) := by decide +kernel
theorem dX4_number_28 : decode cX4_number 28 = .ok (.ifCond .lt 12, 3) := by decide +kernel
theorem dX4_number_31 : decode cX4_number 31 = .ok (.iload_n 3, 1) := by decide +kernel
theorem dX4_number_32 : decode cX4_number 32 = .ok (.aload 4, 2) := by decide +kernel
theorem dX4_number_34 : decode cX4_number 34 = .ok (.getfield 109, 3) := by decide +kernel
theorem dX4_number_37 : decode cX4_number 37 = .ok (.if_icmp .lt 6, 3) := by decide +kernel
theorem dX4_number_40 : decode cX4_number 40 = .ok (.ldc 91, 2) := by decide +kernel
theorem dX4_number_42 : decode cX4_number 42 = .ok (.ireturn, 1) := by decide +kernel
theorem dX4_number_43 : decode cX4_number 43 = .ok (.aload 4, 2) := by decide +kernel
theorem dX4_number_45 : decode cX4_number 45 = .ok (.iload_n 2, 1) := by decide +kernel
theorem dX4_number_46 : decode cX4_number 46 = .ok (.iload_n 3, 1) := by decide +kernel
theorem dX4_number_47 : decode cX4_number 47 = .ok (.invokevirtual 112, 3) := by decide +kernel
theorem dX4_number_50 : decode cX4_number 50 = .ok (.ireturn, 1) := by decide +kernel
set_option maxRecDepth 20000 in
theorem ggX4_join_X4_keepAcross : GoodIn wsX4_join wsX4_keepAcross := goodIn_r _ [7, 8, 9, 10, 11, 12, 13, 14, 15, 16, 17, 18, 19, 20, 21, 22, 23, 24, 25, 26, 27, 28, 29, 30, 31, 32, 33, 34, 35, 36, 37, 38, 39, 40, 41, 42, 43, 6, 44, 45, 46, 47, 48, 49, 50, 51, 52, 53, 54, 55, 56, 57, 58, 59, 60, 61, 62, 63, 64, 65, 66, 67, 68, 69, 70, 71, 72, 73, 74, 75, 76, 77, 78, 79, 80, 81, 82, 83, 84, 85, 86, 87, 88, 89, 90, 91, 92, 93, 94, 95, 96, 97, 98, 99, 100] (by decide +kernel) (by decide +kernel)
set_option maxRecDepth 20000 in
theorem gX4_join_X4_keepAcross : GoodIn wsX4_join (wsV RX4 116 RX4 yX4_keepAcross wsX4_keepAcross) := goodIn_app (goodIn_of _ (by decide +kernel)) ggX4_join_X4_keepAcross
theorem dX4_join_0 : decode cX4_join 0 = .ok (.aload_n 0, 1) := by decide +kernel
theorem dX4_join_1 : decode cX4_join 1 = .ok (.aload_n 0, 1) := by decide +kernel
theorem dX4_join_2 : decode cX4_join 2 = .ok (.getfield 14, 3) := by decide +kernel
theorem dX4_join_5 : decode cX4_join 5 = .ok (.iload_n 1, 1) := by decide +kernel
theorem dX4_join_6 : decode cX4_join 6 = .ok (.iload_n 2, 1) := by decide +kernel
theorem dX4_join_7 : decode cX4_join 7 = .ok (.aload_n 0, 1) := by decide +kernel
theorem dX4_join_8 : decode cX4_join 8 = .ok (.getfield 18, 3) := by decide +kernel
theorem dX4_join_11 : decode cX4_join 11 = .ok (.invokevirtual 116, 3) := by decide +kernel
theorem dX4_join_14 : decode cX4_join 14 = .ok (.ireturn, 1) := by decide +kernel
set_option maxRecDepth 20000 in
theorem ggX4_meet_X4_keepAcross : GoodIn wsX4_meet wsX4_keepAcross := goodIn_r _ [7, 8, 9, 10, 11, 12, 13, 14, 15, 16, 17, 18, 19, 20, 21, 22, 23, 24, 25, 26, 27, 28, 29, 30, 31, 32, 33, 34, 35, 36, 37, 38, 39, 40, 41, 42, 43, 6, 44, 45, 46, 47, 48, 49, 50, 51, 52, 53, 54, 55, 56, 57, 58, 59, 60, 61, 62, 63, 64, 65, 66, 67, 68, 69, 70, 71, 72, 73, 74, 75, 76, 77, 78, 79, 80, 81, 82, 83, 84, 85, 86, 87, 88, 89, 90, 91, 92, 93, 94, 95, 96, 97, 98, 99, 100] (by decide +kernel) (by decide +kernel)
set_option maxRecDepth 20000 in
theorem gX4_meet_X4_keepAcross : GoodIn wsX4_meet (wsV RX4 116 RX4 yX4_keepAcross wsX4_keepAcross) := goodIn_app (goodIn_of _ (by decide +kernel)) ggX4_meet_X4_keepAcross
theorem dX4_meet_0 : decode cX4_meet 0 = .ok (.aload_n 0, 1) := by decide +kernel
theorem dX4_meet_1 : decode cX4_meet 1 = .ok (.aload_n 0, 1) := by decide +kernel
theorem dX4_meet_2 : decode cX4_meet 2 = .ok (.getfield 18, 3) := by decide +kernel
theorem dX4_meet_5 : decode cX4_meet 5 = .ok (.iload_n 1, 1) := by decide +kernel
theorem dX4_meet_6 : decode cX4_meet 6 = .ok (.iload_n 2, 1) := by decide +kernel
theorem dX4_meet_7 : decode cX4_meet 7 = .ok (.aload_n 0, 1) := by decide +kernel
theorem dX4_meet_8 : decode cX4_meet 8 = .ok (.getfield 14, 3) := by decide +kernel
theorem dX4_meet_11 : decode cX4_meet 11 = .ok (.invokevirtual 116, 3) := by decide +kernel
theorem dX4_meet_14 : decode cX4_meet 14 = .ok (.ireturn, 1) := by decide +kernel
set_option maxRecDepth 20000 in
theorem ggX4_on_X2_has : GoodIn wsX4_on wsX2_has := goodIn_r _ [13, 14, 76, 77, 78] (by decide +kernel) (by decide +kernel)
set_option maxRecDepth 20000 in
theorem gX4_on_X2_has : GoodIn wsX4_on (wsV RX4 104 RX2 yX2_has wsX2_has) := goodIn_app (goodIn_of _ (by decide +kernel)) ggX4_on_X2_has
set_option maxRecDepth 20000 in
theorem ggX4_on_X3_read : GoodIn wsX4_on wsX3_read := goodIn_r _ [19, 20, 21, 22, 12, 23, 24, 25, 26, 10, 11, 13, 14, 27, 28, 29, 18, 30, 31, 32, 33, 76, 77, 78, 79, 80, 81] (by decide +kernel) (by decide +kernel)
set_option maxRecDepth 20000 in
theorem gX4_on_X3_read : GoodIn wsX4_on (wsV RX4 120 RX3 yX3_read wsX3_read) := goodIn_app (goodIn_of _ (by decide +kernel)) ggX4_on_X3_read
set_option maxRecDepth 20000 in
theorem ggX4_on_X3_times : GoodIn wsX4_on wsX3_times := goodIn_r _ [37, 31, 32, 33, 79, 80, 81] (by decide +kernel) (by decide +kernel)
set_option maxRecDepth 20000 in
theorem gX4_on_X3_times : GoodIn wsX4_on (wsV RX4 124 RX3 yX3_times wsX3_times) := goodIn_app (goodIn_of _ (by decide +kernel)) ggX4_on_X3_times
set_option maxRecDepth 20000 in
theorem ggX4_on_X0_read : GoodIn wsX4_on wsX0_read := goodIn_r _ [42, 43, 21, 22, 12, 23, 24, 25, 26, 10, 11, 13, 14, 44, 45, 46, 41, 47, 48, 49, 50, 51, 52, 53, 54, 55, 56, 57, 76, 77, 78, 82, 83, 84, 85, 86, 87] (by decide +kernel) (by decide +kernel)
set_option maxRecDepth 20000 in
theorem gX4_on_X0_read : GoodIn wsX4_on (wsV RX4 128 RX0 yX0_read wsX0_read) := goodIn_app (goodIn_of _ (by decide +kernel)) ggX4_on_X0_read
set_option maxRecDepth 20000 in
theorem ggX4_on_X0_valueAt : GoodIn wsX4_on wsX0_valueAt := goodIn_r _ [61, 48, 49, 50, 55, 56, 57, 82, 83, 84, 85, 86, 87, 79, 80, 81] (by decide +kernel) (by decide +kernel)
set_option maxRecDepth 20000 in
theorem gX4_on_X0_valueAt : GoodIn wsX4_on (wsV RX4 129 RX0 yX0_valueAt wsX0_valueAt) := goodIn_app (goodIn_of _ (by decide +kernel)) ggX4_on_X0_valueAt
theorem dX4_on_0 : decode cX4_on 0 = .ok (.iload_n 1, 1) := by decide +kernel
theorem dX4_on_1 : decode cX4_on 1 = .ok (.iconst 1, 1) := by decide +kernel
theorem dX4_on_2 : decode cX4_on 2 = .ok (.if_icmp .eq 11, 3) := by decide +kernel
theorem dX4_on_5 : decode cX4_on 5 = .ok (.iload_n 1, 1) := by decide +kernel
theorem dX4_on_6 : decode cX4_on 6 = .ok (.iconst 2, 1) := by decide +kernel
theorem dX4_on_7 : decode cX4_on 7 = .ok (.if_icmp .eq 6, 3) := by decide +kernel
theorem dX4_on_10 : decode cX4_on 10 = .ok (.ldc 91, 2) := by decide +kernel
theorem dX4_on_12 : decode cX4_on 12 = .ok (.ireturn, 1) := by decide +kernel
theorem dX4_on_13 : decode cX4_on 13 = .ok (.iload_n 1, 1) := by decide +kernel
theorem dX4_on_14 : decode cX4_on 14 = .ok (.iconst 1, 1) := by decide +kernel
theorem dX4_on_15 : decode cX4_on 15 = .ok (.if_icmp .ne 10, 3) := by decide +kernel
theorem dX4_on_18 : decode cX4_on 18 = .ok (.aload_n 0, 1) := by decide +kernel
theorem dX4_on_19 : decode cX4_on 19 = .ok (.getfield 18, 3) := by decide +kernel
theorem dX4_on_22 : decode cX4_on 22 = .ok (.goto 7, 3) := by decide +kernel
theorem dX4_on_25 : decode cX4_on 25 = .ok (.aload_n 0, 1) := by decide +kernel
theorem dX4_on_26 : decode cX4_on 26 = .ok (.getfield 21, 3) := by decide +kernel
theorem dX4_on_29 : decode cX4_on 29 = .ok (.astore 4, 2) := by decide +kernel
theorem dX4_on_31 : decode cX4_on 31 = .ok (.aload 4, 2) := by decide +kernel
theorem dX4_on_33 : decode cX4_on 33 = .ok (.iload_n 2, 1) := by decide +kernel
theorem dX4_on_34 : decode cX4_on 34 = .ok (.invokevirtual 104, 3) := by decide +kernel
theorem dX4_on_37 : decode cX4_on 37 = .ok (.ifCond .eq 14, 3) := by decide +kernel
theorem dX4_on_40 : decode cX4_on 40 = .ok (.aload_n 0, 1) := by decide +kernel
theorem dX4_on_41 : decode cX4_on 41 = .ok (.getfield 14, 3) := by decide +kernel
theorem dX4_on_44 : decode cX4_on 44 = .ok (.iload_n 3, 1) := by decide +kernel
theorem dX4_on_45 : decode cX4_on 45 = .ok (.invokevirtual 104, 3) := by decide +kernel
theorem dX4_on_48 : decode cX4_on 48 = .ok (.ifCond .ne 6, 3) := by decide +kernel
theorem dX4_on_51 : decode cX4_on 51 = .ok (.ldc 108, 2) := by decide +kernel
theorem dX4_on_53 : decode cX4_on 53 = .ok (.ireturn, 1) := by decide +kernel
theorem dX4_on_54 : decode cX4_on 54 = .ok (.aload_n 0, 1) := by decide +kernel
theorem dX4_on_55 : decode cX4_on 55 = .ok (.getfield 37, 3) := by decide +kernel
theorem dX4_on_58 : decode cX4_on 58 = .ok (.aload_n 0, 1) := by decide +kernel
theorem dX4_on_59 : decode cX4_on 59 = .ok (.getfield 14, 3) := by decide +kernel
theorem dX4_on_62 : decode cX4_on 62 = .ok (.iload_n 3, 1) := by decide +kernel
theorem dX4_on_63 : decode cX4_on 63 = .ok (.invokevirtual 120, 3) := by decide +kernel
theorem dX4_on_66 : decode cX4_on 66 = .ok (.iload_n 1, 1) := by decide +kernel
theorem dX4_on_67 : decode cX4_on 67 = .ok (.iconst 1, 1) := by decide +kernel
theorem dX4_on_68 : decode cX4_on 68 = .ok (.if_icmp .ne 37, 3) := by decide +kernel
theorem dX4_on_71 : decode cX4_on 71 = .ok (.aload_n 0, 1) := by decide +kernel
theorem dX4_on_72 : decode cX4_on 72 = .ok (.getfield 41, 3) := by decide +kernel
theorem dX4_on_75 : decode cX4_on 75 = .ok (.aload_n 0, 1) := by decide +kernel
theorem dX4_on_76 : decode cX4_on 76 = .ok (.getfield 18, 3) := by decide +kernel
theorem dX4_on_79 : decode cX4_on 79 = .ok (.iload_n 2, 1) := by decide +kernel
theorem dX4_on_80 : decode cX4_on 80 = .ok (.invokevirtual 120, 3) := by decide +kernel
theorem dX4_on_83 : decode cX4_on 83 = .ok (.aload_n 0, 1) := by decide +kernel
theorem dX4_on_84 : decode cX4_on 84 = .ok (.getfield 41, 3) := by decide +kernel
theorem dX4_on_87 : decode cX4_on 87 = .ok (.aload_n 0, 1) := by decide +kernel
theorem dX4_on_88 : decode cX4_on 88 = .ok (.getfield 37, 3) := by decide +kernel
theorem dX4_on_91 : decode cX4_on 91 = .ok (.invokevirtual 124, 3) := by decide +kernel
theorem dX4_on_94 : decode cX4_on 94 = .ok (.lconst 0, 1) := by decide +kernel
theorem dX4_on_95 : decode cX4_on 95 = .ok (.lcmp, 1) := by decide +kernel
theorem dX4_on_96 : decode cX4_on 96 = .ok (.ifCond .ne 7, 3) := by decide +kernel
theorem dX4_on_99 : decode cX4_on 99 = .ok (.iconst 1, 1) := by decide +kernel
theorem dX4_on_100 : decode cX4_on 100 = .ok (.goto 4, 3) := by decide +kernel
theorem dX4_on_103 : decode cX4_on 103 = .ok (.iconst 0, 1) := by decide +kernel
theorem dX4_on_104 : decode cX4_on 104 = .ok (.ireturn, 1) := by decide +kernel
theorem dX4_on_105 : decode cX4_on 105 = .ok (.aload_n 0, 1) := by decide +kernel
theorem dX4_on_106 : decode cX4_on 106 = .ok (.getfield 53, 3) := by decide +kernel
theorem dX4_on_109 : decode cX4_on 109 = .ok (.aload_n 0, 1) := by decide +kernel
theorem dX4_on_110 : decode cX4_on 110 = .ok (.getfield 21, 3) := by decide +kernel
theorem dX4_on_113 : decode cX4_on 113 = .ok (.iload_n 2, 1) := by decide +kernel
theorem dX4_on_114 : decode cX4_on 114 = .ok (.invokevirtual 128, 3) := by decide +kernel
theorem dX4_on_117 : decode cX4_on 117 = .ok (.aload_n 0, 1) := by decide +kernel
theorem dX4_on_118 : decode cX4_on 118 = .ok (.getfield 53, 3) := by decide +kernel
theorem dX4_on_121 : decode cX4_on 121 = .ok (.aload_n 0, 1) := by decide +kernel
theorem dX4_on_122 : decode cX4_on 122 = .ok (.getfield 37, 3) := by decide +kernel
theorem dX4_on_125 : decode cX4_on 125 = .ok (.invokevirtual 129, 3) := by decide +kernel
theorem dX4_on_128 : decode cX4_on 128 = .ok (.lconst 0, 1) := by decide +kernel
theorem dX4_on_129 : decode cX4_on 129 = .ok (.lcmp, 1) := by decide +kernel
theorem dX4_on_130 : decode cX4_on 130 = .ok (.ifCond .ne 7, 3) := by decide +kernel
theorem dX4_on_133 : decode cX4_on 133 = .ok (.iconst 1, 1) := by decide +kernel
theorem dX4_on_134 : decode cX4_on 134 = .ok (.goto 4, 3) := by decide +kernel
theorem dX4_on_137 : decode cX4_on 137 = .ok (.iconst 0, 1) := by decide +kernel
theorem dX4_on_138 : decode cX4_on 138 = .ok (.ireturn, 1) := by decide +kernel
set_option maxRecDepth 20000 in
theorem ggX4_five_X2_has : GoodIn wsX4_five wsX2_has := goodIn_r _ [14, 15, 178, 179, 180] (by decide +kernel) (by decide +kernel)
set_option maxRecDepth 20000 in
theorem gX4_five_X2_has : GoodIn wsX4_five (wsV RX4 104 RX2 yX2_has wsX2_has) := goodIn_app (goodIn_of _ (by decide +kernel)) ggX4_five_X2_has
set_option maxRecDepth 20000 in
theorem ggX4_five_X4_twoCornersAreSame : GoodIn wsX4_five wsX4_twoCornersAreSame := goodIn_r _ [20, 1, 3, 21, 22, 23, 13, 24, 25, 26, 27, 28, 29, 30, 31, 11, 12, 14, 15, 164, 165, 166, 167, 168, 169, 170, 171, 172, 173, 174, 175, 176, 177, 178, 179, 180] (by decide +kernel) (by decide +kernel)
set_option maxRecDepth 20000 in
theorem gX4_five_X4_twoCornersAreSame : GoodIn wsX4_five (wsV RX4 132 RX4 yX4_twoCornersAreSame wsX4_twoCornersAreSame) := goodIn_app (goodIn_of _ (by decide +kernel)) ggX4_five_X4_twoCornersAreSame
set_option maxRecDepth 20000 in
theorem ggX4_five_X4_fourCornersAreInLine : GoodIn wsX4_five wsX4_fourCornersAreInLine := goodIn_r _ [35, 36, 37, 38, 39, 19, 40, 3, 41, 42, 43, 44, 45, 46, 47, 48, 8, 1, 49, 50, 51, 52, 53, 54, 55, 27, 28, 13, 29, 25, 30, 31, 11, 12, 14, 15, 56, 57, 58, 59, 60, 61, 62, 63, 64, 65, 66, 67, 68, 69, 70, 71, 72, 73, 74, 164, 165, 166, 167, 168, 169, 170, 171, 172, 173, 174, 175, 176, 177, 178, 179, 180, 181, 182, 183] (by decide +kernel) (by decide +kernel)
set_option maxRecDepth 20000 in
theorem gX4_five_X4_fourCornersAreInLine : GoodIn wsX4_five (wsV RX4 135 RX4 yX4_fourCornersAreInLine wsX4_fourCornersAreInLine) := goodIn_app (goodIn_of _ (by decide +kernel)) ggX4_five_X4_fourCornersAreInLine
set_option maxRecDepth 20000 in
theorem ggX4_five_X4_cornersAreSmall : GoodIn wsX4_five wsX4_cornersAreSmall := goodIn_r _ [78, 8, 1, 3, 79, 50, 51, 52, 53, 54, 55, 27, 28, 13, 29, 25, 30, 31, 11, 12, 14, 15, 56, 57, 58, 59, 60, 61, 62, 80, 81, 82, 83, 84, 19, 85, 164, 165, 166, 167, 168, 169, 170, 171, 172, 173, 174, 175, 176, 177, 178, 179, 180, 181, 182, 183] (by decide +kernel) (by decide +kernel)
set_option maxRecDepth 20000 in
theorem gX4_five_X4_cornersAreSmall : GoodIn wsX4_five (wsV RX4 139 RX4 yX4_cornersAreSmall wsX4_cornersAreSmall) := goodIn_app (goodIn_of _ (by decide +kernel)) ggX4_five_X4_cornersAreSmall
set_option maxRecDepth 20000 in
theorem ggX4_five_X4_setLinePair : GoodIn wsX4_five wsX4_setLinePair := goodIn_r _ [89, 36, 90, 45, 46, 47, 19, 48, 8, 1, 49, 50, 51, 52, 53, 54, 55, 27, 28, 13, 29, 25, 30, 31, 11, 12, 14, 15, 56, 57, 58, 59, 60, 61, 62, 63, 64, 65, 66, 91, 92, 93, 94, 95, 96, 97, 98, 99, 100, 101, 102, 103, 104, 105, 106, 107, 108, 109, 164, 165, 166, 167, 168, 169, 170, 171, 172, 173, 174, 175, 176, 177, 178, 179, 180, 181, 182, 183, 184, 185, 186, 187, 188, 189] (by decide +kernel) (by decide +kernel)
set_option maxRecDepth 20000 in
theorem gX4_five_X4_setLinePair : GoodIn wsX4_five (wsV RX4 143 RX4 yX4_setLinePair wsX4_setLinePair) := goodIn_app (goodIn_of _ (by decide +kernel)) ggX4_five_X4_setLinePair
set_option maxRecDepth 20000 in
theorem ggX4_five_X3_read : GoodIn wsX4_five wsX3_read := goodIn_r _ [54, 55, 27, 28, 13, 29, 25, 30, 31, 11, 12, 14, 15, 56, 57, 58, 53, 59, 60, 61, 62, 178, 179, 180, 181, 182, 183] (by decide +kernel) (by decide +kernel)
set_option maxRecDepth 20000 in
theorem gX4_five_X3_read : GoodIn wsX4_five (wsV RX4 120 RX3 yX3_read wsX3_read) := goodIn_app (goodIn_of _ (by decide +kernel)) ggX4_five_X3_read
set_option maxRecDepth 20000 in
theorem ggX4_five_X0_setThrough : GoodIn wsX4_five wsX0_setThrough := goodIn_r _ [113, 114, 115, 116, 94, 117, 100, 101, 102, 107, 108, 109, 118, 119, 120, 121, 96, 97, 98, 99, 103, 104, 105, 106, 184, 185, 186, 187, 188, 189, 181, 182, 183] (by decide +kernel) (by decide +kernel)
set_option maxRecDepth 20000 in
theorem gX4_five_X0_setThrough : GoodIn wsX4_five (wsV RX4 147 RX0 yX0_setThrough wsX0_setThrough) := goodIn_app (goodIn_of _ (by decide +kernel)) ggX4_five_X0_setThrough
set_option maxRecDepth 20000 in
theorem ggX4_five_X4_keepFormUnlessZero : GoodIn wsX4_five wsX4_keepFormUnlessZero := goodIn_r _ [125, 9, 4, 126, 127, 128, 129, 94, 130, 100, 101, 102, 107, 108, 109, 131, 132, 133, 13, 134, 135, 136, 137, 138, 139, 140, 141, 142, 143, 144, 145, 19, 146, 147, 148, 149, 150, 96, 97, 98, 99, 103, 104, 105, 106, 151, 152, 153, 154, 84, 85, 155, 156, 157, 158, 15, 25, 30, 159, 160, 161, 162, 163, 164, 165, 166, 167, 168, 169, 170, 171, 172, 173, 174, 175, 176, 177, 184, 185, 186, 187, 188, 189, 178, 179, 180] (by decide +kernel) (by decide +kernel)
set_option maxRecDepth 20000 in
theorem gX4_five_X4_keepFormUnlessZero : GoodIn wsX4_five (wsV RX4 151 RX4 yX4_keepFormUnlessZero wsX4_keepFormUnlessZero) := goodIn_app (goodIn_of _ (by decide +kernel)) ggX4_five_X4_keepFormUnlessZero
theorem dX4_five_0 : decode cX4_five 0 = .ok (.aload_n 0, 1) := by decide +kernel
theorem dX4_five_1 : decode cX4_five 1 = .ok (.getfield 14, 3) := by decide +kernel
theorem dX4_five_4 : decode cX4_five 4 = .ok (.iload_n 1, 1) := by decide +kernel
theorem dX4_five_5 : decode cX4_five 5 = .ok (.invokevirtual 104, 3) := by decide +kernel
theorem dX4_five_8 : decode cX4_five 8 = .ok (.ifCond .eq 49, 3) := by decide +kernel
theorem dX4_five_11 : decode cX4_five 11 = .ok (.aload_n 0, 1) := by decide +kernel
theorem dX4_five_12 : decode cX4_five 12 = .ok (.getfield 14, 3) := by decide +kernel
theorem dX4_five_15 : decode cX4_five 15 = .ok (.iload_n 2, 1) := by decide +kernel
theorem dX4_five_16 : decode cX4_five 16 = .ok (.invokevirtual 104, 3) := by decide +kernel
theorem dX4_five_19 : decode cX4_five 19 = .ok (.ifCond .eq 38, 3) := by decide +kernel
theorem dX4_five_22 : decode cX4_five 22 = .ok (.aload_n 0, 1) := by decide +kernel
theorem dX4_five_23 : decode cX4_five 23 = .ok (.getfield 14, 3) := by decide +kernel
theorem dX4_five_26 : decode cX4_five 26 = .ok (.iload_n 3, 1) := by decide +kernel
theorem dX4_five_27 : decode cX4_five 27 = .ok (.invokevirtual 104, 3) := by decide +kernel
theorem dX4_five_30 : decode cX4_five 30 = .ok (.ifCond .eq 27, 3) := by decide +kernel
theorem dX4_five_33 : decode cX4_five 33 = .ok (.aload_n 0, 1) := by decide +kernel
theorem dX4_five_34 : decode cX4_five 34 = .ok (.getfield 14, 3) := by decide +kernel
theorem dX4_five_37 : decode cX4_five 37 = .ok (.iload 4, 2) := by decide +kernel
theorem dX4_five_39 : decode cX4_five 39 = .ok (.invokevirtual 104, 3) := by decide +kernel
theorem dX4_five_42 : decode cX4_five 42 = .ok (.ifCond .eq 15, 3) := by decide +kernel
theorem dX4_five_45 : decode cX4_five 45 = .ok (.aload_n 0, 1) := by decide +kernel
theorem dX4_five_46 : decode cX4_five 46 = .ok (.getfield 14, 3) := by decide +kernel
theorem dX4_five_49 : decode cX4_five 49 = .ok (.iload 5, 2) := by decide +kernel
theorem dX4_five_51 : decode cX4_five 51 = .ok (.invokevirtual 104, 3) := by decide +kernel
theorem dX4_five_54 : decode cX4_five 54 = .ok (.ifCond .ne 6, 3) := by decide +kernel
theorem dX4_five_57 : decode cX4_five 57 = .ok (.ldc 108, 2) := by decide +kernel
theorem dX4_five_59 : decode cX4_five 59 = .ok (.ireturn, 1) := by decide +kernel
theorem dX4_five_60 : decode cX4_five 60 = .ok (.aload_n 0, 1) := by decide +kernel
theorem dX4_five_61 : decode cX4_five 61 = .ok (.getfield 66, 3) := by decide +kernel
theorem dX4_five_64 : decode cX4_five 64 = .ok (.iconst 0, 1) := by decide +kernel
theorem dX4_five_65 : decode cX4_five 65 = .ok (.iload_n 1, 1) := by decide +kernel
theorem dX4_five_66 : decode cX4_five 66 = .ok (.iastore, 1) := by decide +kernel
theorem dX4_five_67 : decode cX4_five 67 = .ok (.aload_n 0, 1) := by decide +kernel
theorem dX4_five_68 : decode cX4_five 68 = .ok (.getfield 66, 3) := by decide +kernel
theorem dX4_five_71 : decode cX4_five 71 = .ok (.iconst 1, 1) := by decide +kernel
theorem dX4_five_72 : decode cX4_five 72 = .ok (.iload_n 2, 1) := by decide +kernel
theorem dX4_five_73 : decode cX4_five 73 = .ok (.iastore, 1) := by decide +kernel
theorem dX4_five_74 : decode cX4_five 74 = .ok (.aload_n 0, 1) := by decide +kernel
theorem dX4_five_75 : decode cX4_five 75 = .ok (.getfield 66, 3) := by decide +kernel
theorem dX4_five_78 : decode cX4_five 78 = .ok (.iconst 2, 1) := by decide +kernel
theorem dX4_five_79 : decode cX4_five 79 = .ok (.iload_n 3, 1) := by decide +kernel
theorem dX4_five_80 : decode cX4_five 80 = .ok (.iastore, 1) := by decide +kernel
theorem dX4_five_81 : decode cX4_five 81 = .ok (.aload_n 0, 1) := by decide +kernel
theorem dX4_five_82 : decode cX4_five 82 = .ok (.getfield 66, 3) := by decide +kernel
theorem dX4_five_85 : decode cX4_five 85 = .ok (.iconst 3, 1) := by decide +kernel
theorem dX4_five_86 : decode cX4_five 86 = .ok (.iload 4, 2) := by decide +kernel
theorem dX4_five_88 : decode cX4_five 88 = .ok (.iastore, 1) := by decide +kernel
theorem dX4_five_89 : decode cX4_five 89 = .ok (.aload_n 0, 1) := by decide +kernel
theorem dX4_five_90 : decode cX4_five 90 = .ok (.getfield 66, 3) := by decide +kernel
theorem dX4_five_93 : decode cX4_five 93 = .ok (.iconst 4, 1) := by decide +kernel
theorem dX4_five_94 : decode cX4_five 94 = .ok (.iload 5, 2) := by decide +kernel
theorem dX4_five_96 : decode cX4_five 96 = .ok (.iastore, 1) := by decide +kernel
theorem dX4_five_97 : decode cX4_five 97 = .ok (.aload_n 0, 1) := by decide +kernel
theorem dX4_five_98 : decode cX4_five 98 = .ok (.invokevirtual 132, 3) := by decide +kernel
theorem dX4_five_101 : decode cX4_five 101 = .ok (.ifCond .ne 10, 3) := by decide +kernel
theorem dX4_five_104 : decode cX4_five 104 = .ok (.aload_n 0, 1) := by decide +kernel
theorem dX4_five_105 : decode cX4_five 105 = .ok (.invokevirtual 135, 3) := by decide +kernel
theorem dX4_five_108 : decode cX4_five 108 = .ok (.ifCond .eq 6, 3) := by decide +kernel
theorem dX4_five_111 : decode cX4_five 111 = .ok (.ldc 138, 2) := by decide +kernel
theorem dX4_five_113 : decode cX4_five 113 = .ok (.ireturn, 1) := by decide +kernel
theorem dX4_five_114 : decode cX4_five 114 = .ok (.aload_n 0, 1) := by decide +kernel
theorem dX4_five_115 : decode cX4_five 115 = .ok (.invokevirtual 139, 3) := by decide +kernel
theorem dX4_five_118 : decode cX4_five 118 = .ok (.ifCond .ne 6, 3) := by decide +kernel
theorem dX4_five_121 : decode cX4_five 121 = .ok (.ldc 142, 2) := by decide +kernel
theorem dX4_five_123 : decode cX4_five 123 = .ok (.ireturn, 1) := by decide +kernel
theorem dX4_five_124 : decode cX4_five 124 = .ok (.aload_n 0, 1) := by decide +kernel
theorem dX4_five_125 : decode cX4_five 125 = .ok (.aload_n 0, 1) := by decide +kernel
theorem dX4_five_126 : decode cX4_five 126 = .ok (.getfield 53, 3) := by decide +kernel
theorem dX4_five_129 : decode cX4_five 129 = .ok (.iload_n 1, 1) := by decide +kernel
theorem dX4_five_130 : decode cX4_five 130 = .ok (.iload_n 2, 1) := by decide +kernel
theorem dX4_five_131 : decode cX4_five 131 = .ok (.iload_n 3, 1) := by decide +kernel
theorem dX4_five_132 : decode cX4_five 132 = .ok (.iload 4, 2) := by decide +kernel
theorem dX4_five_134 : decode cX4_five 134 = .ok (.invokevirtual 143, 3) := by decide +kernel
theorem dX4_five_137 : decode cX4_five 137 = .ok (.aload_n 0, 1) := by decide +kernel
theorem dX4_five_138 : decode cX4_five 138 = .ok (.aload_n 0, 1) := by decide +kernel
theorem dX4_five_139 : decode cX4_five 139 = .ok (.getfield 57, 3) := by decide +kernel
theorem dX4_five_142 : decode cX4_five 142 = .ok (.iload_n 1, 1) := by decide +kernel
theorem dX4_five_143 : decode cX4_five 143 = .ok (.iload_n 3, 1) := by decide +kernel
theorem dX4_five_144 : decode cX4_five 144 = .ok (.iload_n 2, 1) := by decide +kernel
theorem dX4_five_145 : decode cX4_five 145 = .ok (.iload 4, 2) := by decide +kernel
theorem dX4_five_147 : decode cX4_five 147 = .ok (.invokevirtual 143, 3) := by decide +kernel
theorem dX4_five_150 : decode cX4_five 150 = .ok (.aload_n 0, 1) := by decide +kernel
theorem dX4_five_151 : decode cX4_five 151 = .ok (.getfield 37, 3) := by decide +kernel
theorem dX4_five_154 : decode cX4_five 154 = .ok (.aload_n 0, 1) := by decide +kernel
theorem dX4_five_155 : decode cX4_five 155 = .ok (.getfield 14, 3) := by decide +kernel
