theorem dX5_point_4 : decode cX5_point 4 = .ok (.iload_n 3, 1) := by decide +kernel
theorem dX5_point_5 : decode cX5_point 5 = .ok (.invokevirtual 91, 3) := by decide +kernel
theorem dX5_point_8 : decode cX5_point 8 = .ok (.ireturn, 1) := by decide +kernel
set_option maxRecDepth 20000 in
theorem ggX5_line_X5_told3 : GoodIn wsX5_line wsX5_told3 := goodIn_r _ [5, 6, 7, 8, 9, 4, 10, 11, 12, 13, 14, 15, 16, 17, 18, 19, 20, 21, 22, 23, 24, 25, 26, 27, 28, 29, 30, 31, 32, 33, 34, 35, 36, 37, 38, 39, 40, 41, 42, 43, 44, 45, 46, 47, 48, 49, 50, 51, 52, 53] (by decide +kernel) (by decide +kernel)
set_option maxRecDepth 20000 in
theorem gX5_line_X5_told3 : GoodIn wsX5_line (wsV RX5 91 RX5 yX5_told3 wsX5_told3) := goodIn_app (goodIn_of _ (by decide +kernel)) ggX5_line_X5_told3
theorem dX5_line_0 : decode cX5_line 0 = .ok (.aload_n 0, 1) := by decide +kernel
theorem dX5_line_1 : decode cX5_line 1 = .ok (.iconst 1, 1) := by decide +kernel
theorem dX5_line_2 : decode cX5_line 2 = .ok (.iload_n 1, 1) := by decide +kernel
theorem dX5_line_3 : decode cX5_line 3 = .ok (.iload_n 2, 1) := by decide +kernel
theorem dX5_line_4 : decode cX5_line 4 = .ok (.iload_n 3, 1) := by decide +kernel
theorem dX5_line_5 : decode cX5_line 5 = .ok (.invokevirtual 91, 3) := by decide +kernel
theorem dX5_line_8 : decode cX5_line 8 = .ok (.ireturn, 1) := by decide +kernel
set_option maxRecDepth 20000 in
theorem ggX5_conic_X5_isNear : GoodIn wsX5_conic wsX5_isNear := goodIn_r _ [6, 7, 8, 9, 10, 5, 11] (by decide +kernel) (by decide +kernel)
set_option maxRecDepth 20000 in
theorem gX5_conic_X5_isNear : GoodIn wsX5_conic (va_wsS RX5 82 yX5_isNear wsX5_isNear) := goodIn_app (goodIn_of _ (by decide +kernel)) ggX5_conic_X5_isNear
set_option maxRecDepth 20000 in
theorem ggX5_conic_X5_keep : GoodIn wsX5_conic wsX5_keep := goodIn_r _ [15, 2, 16, 17, 18, 19, 20, 21, 22, 23, 24, 25, 5, 26, 27, 28, 29, 30, 31, 32, 9, 10, 11, 33, 34, 35, 36, 37, 38, 39, 40, 41, 42, 43, 44, 45, 46, 47, 48, 49] (by decide +kernel) (by decide +kernel)
set_option maxRecDepth 20000 in
theorem gX5_conic_X5_keep : GoodIn wsX5_conic (wsV RX5 87 RX5 yX5_keep wsX5_keep) := goodIn_app (goodIn_of _ (by decide +kernel)) ggX5_conic_X5_keep
theorem dX5_conic_0 : decode cX5_conic 0 = .ok (.iload_n 1, 1) := by decide +kernel
theorem dX5_conic_1 : decode cX5_conic 1 = .ok (.i2l, 1) := by decide +kernel
theorem dX5_conic_2 : decode cX5_conic 2 = .ok (.invokestatic 82, 3) := by decide +kernel
theorem dX5_conic_5 : decode cX5_conic 5 = .ok (.ifCond .eq 46, 3) := by decide +kernel
theorem dX5_conic_8 : decode cX5_conic 8 = .ok (.iload_n 2, 1) := by decide +kernel
theorem dX5_conic_9 : decode cX5_conic 9 = .ok (.i2l, 1) := by decide +kernel
theorem dX5_conic_10 : decode cX5_conic 10 = .ok (.invokestatic 82, 3) := by decide +kernel
theorem dX5_conic_13 : decode cX5_conic 13 = .ok (.ifCond .eq 38, 3) := by decide +kernel
theorem dX5_conic_16 : decode cX5_conic 16 = .ok (.iload_n 3, 1) := by decide +kernel
theorem dX5_conic_17 : decode cX5_conic 17 = .ok (.i2l, 1) := by decide +kernel
theorem dX5_conic_18 : decode cX5_conic 18 = .ok (.invokestatic 82, 3) := by decide +kernel
theorem dX5_conic_21 : decode cX5_conic 21 = .ok (.ifCond .eq 30, 3) := by decide +kernel
theorem dX5_conic_24 : decode cX5_conic 24 = .ok (.iload 4, 2) := by decide +kernel
theorem dX5_conic_26 : decode cX5_conic 26 = .ok (.i2l, 1) := by decide +kernel
theorem dX5_conic_27 : decode cX5_conic 27 = .ok (.invokestatic 82, 3) := by decide +kernel
theorem dX5_conic_30 : decode cX5_conic 30 = .ok (.ifCond .eq 21, 3) := by decide +kernel
theorem dX5_conic_33 : decode cX5_conic 33 = .ok (.iload 5, 2) := by decide +kernel
theorem dX5_conic_35 : decode cX5_conic 35 = .ok (.i2l, 1) := by decide +kernel
theorem dX5_conic_36 : decode cX5_conic 36 = .ok (.invokestatic 82, 3) := by decide +kernel
theorem dX5_conic_39 : decode cX5_conic 39 = .ok (.ifCond .eq 12, 3) := by decide +kernel
theorem dX5_conic_42 : decode cX5_conic 42 = .ok (.iload 6, 2) := by decide +kernel
theorem dX5_conic_44 : decode cX5_conic 44 = .ok (.i2l, 1) := by decide +kernel
theorem dX5_conic_45 : decode cX5_conic 45 = .ok (.invokestatic 82, 3) := by decide +kernel
theorem dX5_conic_48 : decode cX5_conic 48 = .ok (.ifCond .ne 6, 3) := by decide +kernel
theorem dX5_conic_51 : decode cX5_conic 51 = .ok (.ldc 86, 2) := by decide +kernel
theorem dX5_conic_53 : decode cX5_conic 53 = .ok (.ireturn, 1) := by decide +kernel
theorem dX5_conic_54 : decode cX5_conic 54 = .ok (.aload_n 0, 1) := by decide +kernel
theorem dX5_conic_55 : decode cX5_conic 55 = .ok (.getfield 22, 3) := by decide +kernel
theorem dX5_conic_58 : decode cX5_conic 58 = .ok (.iconst 0, 1) := by decide +kernel
theorem dX5_conic_59 : decode cX5_conic 59 = .ok (.iload_n 1, 1) := by decide +kernel
theorem dX5_conic_60 : decode cX5_conic 60 = .ok (.i2l, 1) := by decide +kernel
theorem dX5_conic_61 : decode cX5_conic 61 = .ok (.lastore, 1) := by decide +kernel
theorem dX5_conic_62 : decode cX5_conic 62 = .ok (.aload_n 0, 1) := by decide +kernel
theorem dX5_conic_63 : decode cX5_conic 63 = .ok (.getfield 22, 3) := by decide +kernel
theorem dX5_conic_66 : decode cX5_conic 66 = .ok (.iconst 1, 1) := by decide +kernel
theorem dX5_conic_67 : decode cX5_conic 67 = .ok (.iload_n 2, 1) := by decide +kernel
theorem dX5_conic_68 : decode cX5_conic 68 = .ok (.i2l, 1) := by decide +kernel
theorem dX5_conic_69 : decode cX5_conic 69 = .ok (.lastore, 1) := by decide +kernel
theorem dX5_conic_70 : decode cX5_conic 70 = .ok (.aload_n 0, 1) := by decide +kernel
theorem dX5_conic_71 : decode cX5_conic 71 = .ok (.getfield 22, 3) := by decide +kernel
theorem dX5_conic_74 : decode cX5_conic 74 = .ok (.iconst 2, 1) := by decide +kernel
theorem dX5_conic_75 : decode cX5_conic 75 = .ok (.iload_n 3, 1) := by decide +kernel
theorem dX5_conic_76 : decode cX5_conic 76 = .ok (.i2l, 1) := by decide +kernel
theorem dX5_conic_77 : decode cX5_conic 77 = .ok (.lastore, 1) := by decide +kernel
theorem dX5_conic_78 : decode cX5_conic 78 = .ok (.aload_n 0, 1) := by decide +kernel
theorem dX5_conic_79 : decode cX5_conic 79 = .ok (.getfield 22, 3) := by decide +kernel
theorem dX5_conic_82 : decode cX5_conic 82 = .ok (.iconst 3, 1) := by decide +kernel
theorem dX5_conic_83 : decode cX5_conic 83 = .ok (.iload 4, 2) := by decide +kernel
theorem dX5_conic_85 : decode cX5_conic 85 = .ok (.i2l, 1) := by decide +kernel
theorem dX5_conic_86 : decode cX5_conic 86 = .ok (.lastore, 1) := by decide +kernel
theorem dX5_conic_87 : decode cX5_conic 87 = .ok (.aload_n 0, 1) := by decide +kernel
theorem dX5_conic_88 : decode cX5_conic 88 = .ok (.getfield 22, 3) := by decide +kernel
theorem dX5_conic_91 : decode cX5_conic 91 = .ok (.iconst 4, 1) := by decide +kernel
theorem dX5_conic_92 : decode cX5_conic 92 = .ok (.iload 5, 2) := by decide +kernel
theorem dX5_conic_94 : decode cX5_conic 94 = .ok (.i2l, 1) := by decide +kernel
theorem dX5_conic_95 : decode cX5_conic 95 = .ok (.lastore, 1) := by decide +kernel
theorem dX5_conic_96 : decode cX5_conic 96 = .ok (.aload_n 0, 1) := by decide +kernel
theorem dX5_conic_97 : decode cX5_conic 97 = .ok (.getfield 22, 3) := by decide +kernel
theorem dX5_conic_100 : decode cX5_conic 100 = .ok (.iconst 5, 1) := by decide +kernel
theorem dX5_conic_101 : decode cX5_conic 101 = .ok (.iload 6, 2) := by decide +kernel
theorem dX5_conic_103 : decode cX5_conic 103 = .ok (.i2l, 1) := by decide +kernel
theorem dX5_conic_104 : decode cX5_conic 104 = .ok (.lastore, 1) := by decide +kernel
theorem dX5_conic_105 : decode cX5_conic 105 = .ok (.aload_n 0, 1) := by decide +kernel
theorem dX5_conic_106 : decode cX5_conic 106 = .ok (.iconst 2, 1) := by decide +kernel
theorem dX5_conic_107 : decode cX5_conic 107 = .ok (.ldc 86, 2) := by decide +kernel
theorem dX5_conic_109 : decode cX5_conic 109 = .ok (.invokevirtual 87, 3) := by decide +kernel
theorem dX5_conic_112 : decode cX5_conic 112 = .ok (.ireturn, 1) := by decide +kernel
set_option maxRecDepth 20000 in
theorem ggX5_count_X5_in : GoodIn wsX5_count wsX5_in := goodIn_r _ [7] (by decide +kernel) (by decide +kernel)
set_option maxRecDepth 20000 in
theorem gX5_count_X5_in : GoodIn wsX5_count (va_wsS RX5 56 yX5_in wsX5_in) := goodIn_app (goodIn_of _ (by decide +kernel)) ggX5_count_X5_in
theorem dX5_count_0 : decode cX5_count 0 = .ok (.iload_n 1, 1) := by decide +kernel
theorem dX5_count_1 : decode cX5_count 1 = .ok (.i2l, 1) := by decide +kernel
theorem dX5_count_2 : decode cX5_count 2 = .ok (.lconst 0, 1) := by decide +kernel
theorem dX5_count_3 : decode cX5_count 3 = .ok (.ldc2_w 95, 3) := by decide +kernel
theorem dX5_count_6 : decode cX5_count 6 = .ok (.invokestatic 56, 3) := by decide +kernel
theorem dX5_count_9 : decode cX5_count 9 = .ok (.ifCond .eq 12, 3) := by decide +kernel
theorem dX5_count_12 : decode cX5_count 12 = .ok (.aload_n 0, 1) := by decide +kernel
theorem dX5_count_13 : decode cX5_count 13 = .ok (.getfield 19, 3) := by decide +kernel
theorem dX5_count_16 : decode cX5_count 16 = .ok (.iload_n 1, 1) := by decide +kernel
theorem dX5_count_17 : decode cX5_count 17 = .ok (.iaload, 1) := by decide +kernel
theorem dX5_count_18 : decode cX5_count 18 = .ok (.goto 5, 3) := by decide +kernel
theorem dX5_count_21 : decode cX5_count 21 = .ok (.ldc 86, 2) := by decide +kernel
theorem dX5_count_23 : decode cX5_count 23 = .ok (.ireturn, 1) := by decide +kernel
set_option maxRecDepth 20000 in
theorem ggX5_number_X5_in : GoodIn wsX5_number wsX5_in := goodIn_r _ [7] (by decide +kernel) (by decide +kernel)
set_option maxRecDepth 20000 in
theorem gX5_number_X5_in : GoodIn wsX5_number (va_wsS RX5 56 yX5_in wsX5_in) := goodIn_app (goodIn_of _ (by decide +kernel)) ggX5_number_X5_in
set_option maxRecDepth 20000 in
theorem ggX5_number_X5_isOf : GoodIn wsX5_number wsX5_isOf := goodIn_r _ [11, 12, 4, 5, 6, 7, 23, 24, 25, 26, 27, 28, 29, 30, 31, 32, 33, 34, 35, 36, 37, 38, 39] (by decide +kernel) (by decide +kernel)
set_option maxRecDepth 20000 in
theorem gX5_number_X5_isOf : GoodIn wsX5_number (wsV RX5 97 RX5 yX5_isOf wsX5_isOf) := goodIn_app (goodIn_of _ (by decide +kernel)) ggX5_number_X5_isOf
set_option maxRecDepth 20000 in
theorem ggX5_number_X5_wide : GoodIn wsX5_number wsX5_wide := goodIn_r _ [15] (by decide +kernel) (by decide +kernel)
set_option maxRecDepth 20000 in
theorem gX5_number_X5_wide : GoodIn wsX5_number (va_wsS RX5 64 yX5_wide wsX5_wide) := goodIn_app (goodIn_of _ (by decide +kernel)) ggX5_number_X5_wide
set_option maxRecDepth 20000 in
theorem ggX5_number_X5_numberOf : GoodIn wsX5_number wsX5_numberOf := goodIn_r _ [19, 20, 21, 22, 23, 24, 25, 26, 27, 28, 29, 30, 31, 32, 33, 34, 35, 36, 37, 38, 39] (by decide +kernel) (by decide +kernel)
set_option maxRecDepth 20000 in
theorem gX5_number_X5_numberOf : GoodIn wsX5_number (wsV RX5 102 RX5 yX5_numberOf wsX5_numberOf) := goodIn_app (goodIn_of _ (by decide +kernel)) ggX5_number_X5_numberOf
theorem dX5_number_0 : decode cX5_number 0 = .ok (.iload_n 1, 1) := by decide +kernel
theorem dX5_number_1 : decode cX5_number 1 = .ok (.i2l, 1) := by decide +kernel
theorem dX5_number_2 : decode cX5_number 2 = .ok (.lconst 0, 1) := by decide +kernel
theorem dX5_number_3 : decode cX5_number 3 = .ok (.ldc2_w 95, 3) := by decide +kernel
theorem dX5_number_6 : decode cX5_number 6 = .ok (.invokestatic 56, 3) := by decide +kernel
theorem dX5_number_9 : decode cX5_number 9 = .ok (.ifCond .ne 6, 3) := by decide +kernel
theorem dX5_number_12 : decode cX5_number 12 = .ok (.ldc 86, 2) := by decide +kernel
theorem dX5_number_14 : decode cX5_number 14 = .ok (.ireturn, 1) := by decide +kernel
theorem dX5_number_15 : decode cX5_number 15 = .ok (.aload_n 0, 1) := by decide +kernel
theorem dX5_number_16 : decode cX5_number 16 = .ok (.iload_n 1, 1) := by decide +kernel
theorem dX5_number_17 : decode cX5_number 17 = .ok (.iload_n 2, 1) := by decide +kernel
theorem dX5_number_18 : decode cX5_number 18 = .ok (.invokevirtual 97, 3) := by decide +kernel
theorem dX5_number_21 : decode cX5_number 21 = .ok (.ifCond .ne 6, 3) := by decide +kernel
theorem dX5_number_24 : decode cX5_number 24 = .ok (.ldc 101, 2) := by decide +kernel
theorem dX5_number_26 : decode cX5_number 26 = .ok (.ireturn, 1) := by decide +kernel
theorem dX5_number_27 : decode cX5_number 27 = .ok (.iload_n 3, 1) := by decide +kernel
theorem dX5_number_28 : decode cX5_number 28 = .ok (.i2l, 1) := by decide +kernel
theorem dX5_number_29 : decode cX5_number 29 = .ok (.lconst 0, 1) := by decide +kernel
theorem dX5_number_30 : decode cX5_number 30 = .ok (.iload_n 1, 1) := by decide +kernel
theorem dX5_number_31 : decode cX5_number 31 = .ok (.invokestatic 64, 3) := by decide +kernel
theorem dX5_number_34 : decode cX5_number 34 = .ok (.iconst 1, 1) := by decide +kernel
theorem dX5_number_35 : decode cX5_number 35 = .ok (.isub, 1) := by decide +kernel
theorem dX5_number_36 : decode cX5_number 36 = .ok (.i2l, 1) := by decide +kernel
theorem dX5_number_37 : decode cX5_number 37 = .ok (.invokestatic 56, 3) := by decide +kernel
theorem dX5_number_40 : decode cX5_number 40 = .ok (.ifCond .eq 13, 3) := by decide +kernel
theorem dX5_number_43 : decode cX5_number 43 = .ok (.aload_n 0, 1) := by decide +kernel
theorem dX5_number_44 : decode cX5_number 44 = .ok (.iload_n 1, 1) := by decide +kernel
theorem dX5_number_45 : decode cX5_number 45 = .ok (.iload_n 2, 1) := by decide +kernel
theorem dX5_number_46 : decode cX5_number 46 = .ok (.iload_n 3, 1) := by decide +kernel
theorem dX5_number_47 : decode cX5_number 47 = .ok (.invokevirtual 102, 3) := by decide +kernel
theorem dX5_number_50 : decode cX5_number 50 = .ok (.goto 5, 3) := by decide +kernel
theorem dX5_number_53 : decode cX5_number 53 = .ok (.ldc 86, 2) := by decide +kernel
theorem dX5_number_55 : decode cX5_number 55 = .ok (.ireturn, 1) := by decide +kernel
set_option maxRecDepth 20000 in
theorem ggX5_crossed_X5_isOf : GoodIn wsX5_crossed wsX5_isOf := goodIn_r _ [8, 9, 10, 11, 7, 12, 37, 38, 39, 40, 41, 42, 43, 44, 45, 46, 47, 48, 49, 50, 51, 52, 53] (by decide +kernel) (by decide +kernel)
set_option maxRecDepth 20000 in
theorem gX5_crossed_X5_isOf : GoodIn wsX5_crossed (wsV RX5 97 RX5 yX5_isOf wsX5_isOf) := goodIn_app (goodIn_of _ (by decide +kernel)) ggX5_crossed_X5_isOf
set_option maxRecDepth 20000 in
theorem ggX5_crossed_X5_numberOf : GoodIn wsX5_crossed wsX5_numberOf := goodIn_r _ [16, 17, 18, 19, 37, 38, 39, 40, 41, 42, 43, 44, 45, 46, 47, 48, 49, 50, 51, 52, 53] (by decide +kernel) (by decide +kernel)
set_option maxRecDepth 20000 in
theorem gX5_crossed_X5_numberOf : GoodIn wsX5_crossed (wsV RX5 102 RX5 yX5_numberOf wsX5_numberOf) := goodIn_app (goodIn_of _ (by decide +kernel)) ggX5_crossed_X5_numberOf
set_option maxRecDepth 20000 in
theorem ggX5_crossed_X5_keep : GoodIn wsX5_crossed wsX5_keep := goodIn_r _ [23, 2, 24, 25, 26, 9, 27, 17, 18, 19, 28, 29, 7, 30, 31, 32, 33, 34, 35, 36, 10, 11, 12, 37, 38, 39, 40, 41, 42, 43, 44, 45, 46, 47, 48, 49, 50, 51, 52, 53] (by decide +kernel) (by decide +kernel)
set_option maxRecDepth 20000 in
theorem gX5_crossed_X5_keep : GoodIn wsX5_crossed (wsV RX5 87 RX5 yX5_keep wsX5_keep) := goodIn_app (goodIn_of _ (by decide +kernel)) ggX5_crossed_X5_keep
theorem dX5_crossed_0 : decode cX5_crossed 0 = .ok (.aload_n 0, 1) := by decide +kernel
theorem dX5_crossed_1 : decode cX5_crossed 1 = .ok (.iload_n 1, 1) := by decide +kernel
theorem dX5_crossed_2 : decode cX5_crossed 2 = .ok (.iload_n 2, 1) := by decide +kernel
theorem dX5_crossed_3 : decode cX5_crossed 3 = .ok (.invokevirtual 97, 3) := by decide +kernel
theorem dX5_crossed_6 : decode cX5_crossed 6 = .ok (.ifCond .eq 12, 3) := by decide +kernel
theorem dX5_crossed_9 : decode cX5_crossed 9 = .ok (.aload_n 0, 1) := by decide +kernel
theorem dX5_crossed_10 : decode cX5_crossed 10 = .ok (.iload_n 1, 1) := by decide +kernel
theorem dX5_crossed_11 : decode cX5_crossed 11 = .ok (.iload_n 3, 1) := by decide +kernel
theorem dX5_crossed_12 : decode cX5_crossed 12 = .ok (.invokevirtual 97, 3) := by decide +kernel
theorem dX5_crossed_15 : decode cX5_crossed 15 = .ok (.ifCond .ne 6, 3) := by decide +kernel
theorem dX5_crossed_18 : decode cX5_crossed 18 = .ok (.ldc 101, 2) := by decide +kernel
theorem dX5_crossed_20 : decode cX5_crossed 20 = .ok (.ireturn, 1) := by decide +kernel
theorem dX5_crossed_21 : decode cX5_crossed 21 = .ok (.iconst 0, 1) := by decide +kernel
theorem dX5_crossed_22 : decode cX5_crossed 22 = .ok (.istore 4, 2) := by decide +kernel
theorem dX5_crossed_24 : decode cX5_crossed 24 = .ok (.iload 4, 2) := by decide +kernel
theorem dX5_crossed_26 : decode cX5_crossed 26 = .ok (.iconst 3, 1) := by decide +kernel
theorem dX5_crossed_27 : decode cX5_crossed 27 = .ok (.if_icmp .ge 71, 3) := by decide +kernel
theorem dX5_crossed_30 : decode cX5_crossed 30 = .ok (.iload 4, 2) := by decide +kernel
theorem dX5_crossed_32 : decode cX5_crossed 32 = .ok (.iconst 1, 1) := by decide +kernel
theorem dX5_crossed_33 : decode cX5_crossed 33 = .ok (.iadd, 1) := by decide +kernel
theorem dX5_crossed_34 : decode cX5_crossed 34 = .ok (.iconst 3, 1) := by decide +kernel
theorem dX5_crossed_35 : decode cX5_crossed 35 = .ok (.irem, 1) := by decide +kernel
theorem dX5_crossed_36 : decode cX5_crossed 36 = .ok (.istore 5, 2) := by decide +kernel
theorem dX5_crossed_38 : decode cX5_crossed 38 = .ok (.iload 4, 2) := by decide +kernel
theorem dX5_crossed_40 : decode cX5_crossed 40 = .ok (.iconst 2, 1) := by decide +kernel
theorem dX5_crossed_41 : decode cX5_crossed 41 = .ok (.iadd, 1) := by decide +kernel
theorem dX5_crossed_42 : decode cX5_crossed 42 = .ok (.iconst 3, 1) := by decide +kernel
theorem dX5_crossed_43 : decode cX5_crossed 43 = .ok (.irem, 1) := by decide +kernel
theorem dX5_crossed_44 : decode cX5_crossed 44 = .ok (.istore 6, 2) := by decide +kernel
theorem dX5_crossed_46 : decode cX5_crossed 46 = .ok (.aload_n 0, 1) := by decide +kernel
theorem dX5_crossed_47 : decode cX5_crossed 47 = .ok (.getfield 22, 3) := by decide +kernel
theorem dX5_crossed_50 : decode cX5_crossed 50 = .ok (.iload 4, 2) := by decide +kernel
theorem dX5_crossed_52 : decode cX5_crossed 52 = .ok (.aload_n 0, 1) := by decide +kernel
theorem dX5_crossed_53 : decode cX5_crossed 53 = .ok (.iload_n 1, 1) := by decide +kernel
theorem dX5_crossed_54 : decode cX5_crossed 54 = .ok (.iload_n 2, 1) := by decide +kernel
theorem dX5_crossed_55 : decode cX5_crossed 55 = .ok (.iload 5, 2) := by decide +kernel
theorem dX5_crossed_57 : decode cX5_crossed 57 = .ok (.invokevirtual 102, 3) := by decide +kernel
theorem dX5_crossed_60 : decode cX5_crossed 60 = .ok (.i2l, 1) := by decide +kernel
theorem dX5_crossed_61 : decode cX5_crossed 61 = .ok (.aload_n 0, 1) := by decide +kernel
theorem dX5_crossed_62 : decode cX5_crossed 62 = .ok (.iload_n 1, 1) := by decide +kernel
theorem dX5_crossed_63 : decode cX5_crossed 63 = .ok (.iload_n 3, 1) := by decide +kernel
theorem dX5_crossed_64 : decode cX5_crossed 64 = .ok (.iload 6, 2) := by decide +kernel
theorem dX5_crossed_66 : decode cX5_crossed 66 = .ok (.invokevirtual 102, 3) := by decide +kernel
theorem dX5_crossed_69 : decode cX5_crossed 69 = .ok (.i2l, 1) := by decide +kernel
theorem dX5_crossed_70 : decode cX5_crossed 70 = .ok (.lmul, 1) := by decide +kernel
theorem dX5_crossed_71 : decode cX5_crossed 71 = .ok (.aload_n 0, 1) := by decide +kernel
theorem dX5_crossed_72 : decode cX5_crossed 72 = .ok (.iload_n 1, 1) := by decide +kernel
theorem dX5_crossed_73 : decode cX5_crossed 73 = .ok (.iload_n 2, 1) := by decide +kernel
theorem dX5_crossed_74 : decode cX5_crossed 74 = .ok (.iload 6, 2) := by decide +kernel
theorem dX5_crossed_76 : decode cX5_crossed 76 = .ok (.invokevirtual 102, 3) := by decide +kernel
theorem dX5_crossed_79 : decode cX5_crossed 79 = .ok (.i2l, 1) := by decide +kernel
theorem dX5_crossed_80 : decode cX5_crossed 80 = .ok (.aload_n 0, 1) := by decide +kernel
theorem dX5_crossed_81 : decode cX5_crossed 81 = .ok (.iload_n 1, 1) := by decide +kernel
theorem dX5_crossed_82 : decode cX5_crossed 82 = .ok (.iload_n 3, 1) := by decide +kernel
theorem dX5_crossed_83 : decode cX5_crossed 83 = .ok (.iload 5, 2) := by decide +kernel
theorem dX5_crossed_85 : decode cX5_crossed 85 = .ok (.invokevirtual 102, 3) := by decide +kernel
theorem dX5_crossed_88 : decode cX5_crossed 88 = .ok (.i2l, 1) := by decide +kernel
theorem dX5_crossed_89 : decode cX5_crossed 89 = .ok (.lmul, 1) := by decide +kernel
theorem dX5_crossed_90 : decode cX5_crossed 90 = .ok (.lsub, 1) := by decide +kernel
theorem dX5_crossed_91 : decode cX5_crossed 91 = .ok (.lastore, 1) := by decide +kernel
theorem dX5_crossed_92 : decode cX5_crossed 92 = .ok (.iinc 4 1, 3) := by decide +kernel
theorem dX5_crossed_95 : decode cX5_crossed 95 = .ok (.goto (-71), 3) := by decide +kernel
theorem dX5_crossed_98 : decode cX5_crossed 98 = .ok (.aload_n 0, 1) := by decide +kernel
theorem dX5_crossed_99 : decode cX5_crossed 99 = .ok (.iconst 1, 1) := by decide +kernel
theorem dX5_crossed_100 : decode cX5_crossed 100 = .ok (.iload_n 1, 1) := by decide +kernel
theorem dX5_crossed_101 : decode cX5_crossed 101 = .ok (.isub, 1) := by decide +kernel
theorem dX5_crossed_102 : decode cX5_crossed 102 = .ok (.ldc 106, 2) := by decide +kernel
theorem dX5_crossed_104 : decode cX5_crossed 104 = .ok (.invokevirtual 87, 3) := by decide +kernel
theorem dX5_crossed_107 : decode cX5_crossed 107 = .ok (.ireturn, 1) := by decide +kernel
set_option maxRecDepth 20000 in
theorem ggX5_join_X5_crossed : GoodIn wsX5_join wsX5_crossed := goodIn_r _ [5, 6, 7, 8, 9, 10, 11, 4, 12, 13, 14, 15, 16, 17, 18, 19, 20, 21, 22, 23, 24, 25, 26, 27, 28, 29, 30, 31, 32, 33, 34, 35, 36, 37, 38, 39, 40, 41, 42, 43, 44, 45, 46, 47, 48, 49, 50, 51, 52, 53, 54, 55, 56, 57] (by decide +kernel) (by decide +kernel)
set_option maxRecDepth 20000 in
theorem gX5_join_X5_crossed : GoodIn wsX5_join (wsV RX5 107 RX5 yX5_crossed wsX5_crossed) := goodIn_app (goodIn_of _ (by decide +kernel)) ggX5_join_X5_crossed
theorem dX5_join_0 : decode cX5_join 0 = .ok (.aload_n 0, 1) := by decide +kernel
theorem dX5_join_1 : decode cX5_join 1 = .ok (.iconst 0, 1) := by decide +kernel
theorem dX5_join_2 : decode cX5_join 2 = .ok (.iload_n 1, 1) := by decide +kernel
theorem dX5_join_3 : decode cX5_join 3 = .ok (.iload_n 2, 1) := by decide +kernel
theorem dX5_join_4 : decode cX5_join 4 = .ok (.invokevirtual 107, 3) := by decide +kernel
theorem dX5_join_7 : decode cX5_join 7 = .ok (.ireturn, 1) := by decide +kernel
set_option maxRecDepth 20000 in
theorem ggX5_meet_X5_crossed : GoodIn wsX5_meet wsX5_crossed := goodIn_r _ [5, 6, 7, 8, 9, 10, 11, 4, 12, 13, 14, 15, 16, 17, 18, 19, 20, 21, 22, 23, 24, 25, 26, 27, 28, 29, 30, 31, 32, 33, 34, 35, 36, 37, 38, 39, 40, 41, 42, 43, 44, 45, 46, 47, 48, 49, 50, 51, 52, 53, 54, 55, 56, 57] (by decide +kernel) (by decide +kernel)
set_option maxRecDepth 20000 in
theorem gX5_meet_X5_crossed : GoodIn wsX5_meet (wsV RX5 107 RX5 yX5_crossed wsX5_crossed) := goodIn_app (goodIn_of _ (by decide +kernel)) ggX5_meet_X5_crossed
theorem dX5_meet_0 : decode cX5_meet 0 = .ok (.aload_n 0, 1) := by decide +kernel
theorem dX5_meet_1 : decode cX5_meet 1 = .ok (.iconst 1, 1) := by decide +kernel
theorem dX5_meet_2 : decode cX5_meet 2 = .ok (.iload_n 1, 1) := by decide +kernel
theorem dX5_meet_3 : decode cX5_meet 3 = .ok (.iload_n 2, 1) := by decide +kernel
theorem dX5_meet_4 : decode cX5_meet 4 = .ok (.invokevirtual 107, 3) := by decide +kernel
theorem dX5_meet_7 : decode cX5_meet 7 = .ok (.ireturn, 1) := by decide +kernel
theorem dX5_valueAt_0 : decode cX5_valueAt 0 = .ok (.bipush 6, 2) := by decide +kernel
theorem dX5_valueAt_2 : decode cX5_valueAt 2 = .ok (.iload_n 1, 1) := by decide +kernel
theorem dX5_valueAt_3 : decode cX5_valueAt 3 = .ok (.imul, 1) := by decide +kernel
theorem dX5_valueAt_4 : decode cX5_valueAt 4 = .ok (.istore 8, 2) := by decide +kernel
theorem dX5_valueAt_6 : decode cX5_valueAt 6 = .ok (.aload_n 0, 1) := by decide +kernel
theorem dX5_valueAt_7 : decode cX5_valueAt 7 = .ok (.getfield 16, 3) := by decide +kernel
theorem dX5_valueAt_10 : decode cX5_valueAt 10 = .ok (.iload 8, 2) := by decide +kernel
theorem dX5_valueAt_12 : decode cX5_valueAt 12 = .ok (.iaload, 1) := by decide +kernel
theorem dX5_valueAt_13 : decode cX5_valueAt 13 = .ok (.i2l, 1) := by decide +kernel
theorem dX5_valueAt_14 : decode cX5_valueAt 14 = .ok (.lload_n 2, 1) := by decide +kernel
theorem dX5_valueAt_15 : decode cX5_valueAt 15 = .ok (.lmul, 1) := by decide +kernel
theorem dX5_valueAt_16 : decode cX5_valueAt 16 = .ok (.lload_n 2, 1) := by decide +kernel
theorem dX5_valueAt_17 : decode cX5_valueAt 17 = .ok (.lmul, 1) := by decide +kernel
theorem dX5_valueAt_18 : decode cX5_valueAt 18 = .ok (.aload_n 0, 1) := by decide +kernel
theorem dX5_valueAt_19 : decode cX5_valueAt 19 = .ok (.getfield 16, 3) := by decide +kernel
theorem dX5_valueAt_22 : decode cX5_valueAt 22 = .ok (.iload 8, 2) := by decide +kernel
theorem dX5_valueAt_24 : decode cX5_valueAt 24 = .ok (.iconst 1, 1) := by decide +kernel
theorem dX5_valueAt_25 : decode cX5_valueAt 25 = .ok (.iadd, 1) := by decide +kernel
theorem dX5_valueAt_26 : decode cX5_valueAt 26 = .ok (.iaload, 1) := by decide +kernel
theorem dX5_valueAt_27 : decode cX5_valueAt 27 = .ok (.i2l, 1) := by decide +kernel
theorem dX5_valueAt_28 : decode cX5_valueAt 28 = .ok (.lload_n 2, 1) := by decide +kernel
theorem dX5_valueAt_29 : decode cX5_valueAt 29 = .ok (.lmul, 1) := by decide +kernel
theorem dX5_valueAt_30 : decode cX5_valueAt 30 = .ok (.lload 4, 2) := by decide +kernel
theorem dX5_valueAt_32 : decode cX5_valueAt 32 = .ok (.lmul, 1) := by decide +kernel
theorem dX5_valueAt_33 : decode cX5_valueAt 33 = .ok (.ladd, 1) := by decide +kernel
theorem dX5_valueAt_34 : decode cX5_valueAt 34 = .ok (.aload_n 0, 1) := by decide +kernel
theorem dX5_valueAt_35 : decode cX5_valueAt 35 = .ok (.getfield 16, 3) := by decide +kernel
theorem dX5_valueAt_38 : decode cX5_valueAt 38 = .ok (.iload 8, 2) := by decide +kernel
theorem dX5_valueAt_40 : decode cX5_valueAt 40 = .ok (.iconst 2, 1) := by decide +kernel
theorem dX5_valueAt_41 : decode cX5_valueAt 41 = .ok (.iadd, 1) := by decide +kernel
theorem dX5_valueAt_42 : decode cX5_valueAt 42 = .ok (.iaload, 1) := by decide +kernel
theorem dX5_valueAt_43 : decode cX5_valueAt 43 = .ok (.i2l, 1) := by decide +kernel
theorem dX5_valueAt_44 : decode cX5_valueAt 44 = .ok (.lload 4, 2) := by decide +kernel
theorem dX5_valueAt_46 : decode cX5_valueAt 46 = .ok (.lmul, 1) := by decide +kernel
theorem dX5_valueAt_47 : decode cX5_valueAt 47 = .ok (.lload 4, 2) := by decide +kernel
theorem dX5_valueAt_49 : decode cX5_valueAt 49 = .ok (.lmul, 1) := by decide +kernel
theorem dX5_valueAt_50 : decode cX5_valueAt 50 = .ok (.ladd, 1) := by decide +kernel
theorem dX5_valueAt_51 : decode cX5_valueAt 51 = .ok (.aload_n 0, 1) := by decide +kernel
theorem dX5_valueAt_52 : decode cX5_valueAt 52 = .ok (.getfield 16, 3) := by decide +kernel
theorem dX5_valueAt_55 : decode cX5_valueAt 55 = .ok (.iload 8, 2) := by decide +kernel
theorem dX5_valueAt_57 : decode cX5_valueAt 57 = .ok (.iconst 3, 1) := by decide +kernel
theorem dX5_valueAt_58 : decode cX5_valueAt 58 = .ok (.iadd, 1) := by decide +kernel
theorem dX5_valueAt_59 : decode cX5_valueAt 59 = .ok (.iaload, 1) := by decide +kernel
theorem dX5_valueAt_60 : decode cX5_valueAt 60 = .ok (.i2l, 1) := by decide +kernel
theorem dX5_valueAt_61 : decode cX5_valueAt 61 = .ok (.lload_n 2, 1) := by decide +kernel
theorem dX5_valueAt_62 : decode cX5_valueAt 62 = .ok (.lmul, 1) := by decide +kernel
theorem dX5_valueAt_63 : decode cX5_valueAt 63 = .ok (.lload 6, 2) := by decide +kernel
theorem dX5_valueAt_65 : decode cX5_valueAt 65 = .ok (.lmul, 1) := by decide +kernel
theorem dX5_valueAt_66 : decode cX5_valueAt 66 = .ok (.ladd, 1) := by decide +kernel
theorem dX5_valueAt_67 : decode cX5_valueAt 67 = .ok (.aload_n 0, 1) := by decide +kernel
theorem dX5_valueAt_68 : decode cX5_valueAt 68 = .ok (.getfield 16, 3) := by decide +kernel
theorem dX5_valueAt_71 : decode cX5_valueAt 71 = .ok (.iload 8, 2) := by decide +kernel
theorem dX5_valueAt_73 : decode cX5_valueAt 73 = .ok (.iconst 4, 1) := by decide +kernel
theorem dX5_valueAt_74 : decode cX5_valueAt 74 = .ok (.iadd, 1) := by decide +kernel
theorem dX5_valueAt_75 : decode cX5_valueAt 75 = .ok (.iaload, 1) := by decide +kernel
theorem dX5_valueAt_76 : decode cX5_valueAt 76 = .ok (.i2l, 1) := by decide +kernel
theorem dX5_valueAt_77 : decode cX5_valueAt 77 = .ok (.lload 4, 2) := by decide +kernel
theorem dX5_valueAt_79 : decode cX5_valueAt 79 = .ok (.lmul, 1) := by decide +kernel
theorem dX5_valueAt_80 : decode cX5_valueAt 80 = .ok (.lload 6, 2) := by decide +kernel
theorem dX5_valueAt_82 : decode cX5_valueAt 82 = .ok (.lmul, 1) := by decide +kernel
theorem dX5_valueAt_83 : decode cX5_valueAt 83 = .ok (.ladd, 1) := by decide +kernel
theorem dX5_valueAt_84 : decode cX5_valueAt 84 = .ok (.aload_n 0, 1) := by decide +kernel
theorem dX5_valueAt_85 : decode cX5_valueAt 85 = .ok (.getfield 16, 3) := by decide +kernel
theorem dX5_valueAt_88 : decode cX5_valueAt 88 = .ok (.iload 8, 2) := by decide +kernel
theorem dX5_valueAt_90 : decode cX5_valueAt 90 = .ok (.iconst 5, 1) := by decide +kernel
theorem dX5_valueAt_91 : decode cX5_valueAt 91 = .ok (.iadd, 1) := by decide +kernel
theorem dX5_valueAt_92 : decode cX5_valueAt 92 = .ok (.iaload, 1) := by decide +kernel
theorem dX5_valueAt_93 : decode cX5_valueAt 93 = .ok (.i2l, 1) := by decide +kernel
theorem dX5_valueAt_94 : decode cX5_valueAt 94 = .ok (.lload 6, 2) := by decide +kernel
theorem dX5_valueAt_96 : decode cX5_valueAt 96 = .ok (.lmul, 1) := by decide +kernel
theorem dX5_valueAt_97 : decode cX5_valueAt 97 = .ok (.lload 6, 2) := by decide +kernel
theorem dX5_valueAt_99 : decode cX5_valueAt 99 = .ok (.lmul, 1) := by decide +kernel
theorem dX5_valueAt_100 : decode cX5_valueAt 100 = .ok (.ladd, 1) := by decide +kernel
theorem dX5_valueAt_101 : decode cX5_valueAt 101 = .ok (.lreturn, 1) := by decide +kernel
set_option maxRecDepth 20000 in
theorem ggX5_valueOf_X5_valueAt : GoodIn wsX5_valueOf wsX5_valueAt := goodIn_r _ [6, 7, 8, 9, 10, 11, 12, 13, 14, 15, 16, 17, 18, 19, 20, 21, 22, 23, 24] (by decide +kernel) (by decide +kernel)
set_option maxRecDepth 20000 in
theorem gX5_valueOf_X5_valueAt : GoodIn wsX5_valueOf (wsV RX5 110 RX5 yX5_valueAt wsX5_valueAt) := goodIn_app (goodIn_of _ (by decide +kernel)) ggX5_valueOf_X5_valueAt
theorem dX5_valueOf_0 : decode cX5_valueOf 0 = .ok (.aload_n 0, 1) := by decide +kernel
theorem dX5_valueOf_1 : decode cX5_valueOf 1 = .ok (.iload_n 1, 1) := by decide +kernel
theorem dX5_valueOf_2 : decode cX5_valueOf 2 = .ok (.aload_n 0, 1) := by decide +kernel
theorem dX5_valueOf_3 : decode cX5_valueOf 3 = .ok (.getfield 7, 3) := by decide +kernel
theorem dX5_valueOf_6 : decode cX5_valueOf 6 = .ok (.iconst 3, 1) := by decide +kernel
theorem dX5_valueOf_7 : decode cX5_valueOf 7 = .ok (.iload_n 2, 1) := by decide +kernel
theorem dX5_valueOf_8 : decode cX5_valueOf 8 = .ok (.imul, 1) := by decide +kernel
theorem dX5_valueOf_9 : decode cX5_valueOf 9 = .ok (.iaload, 1) := by decide +kernel
theorem dX5_valueOf_10 : decode cX5_valueOf 10 = .ok (.i2l, 1) := by decide +kernel
theorem dX5_valueOf_11 : decode cX5_valueOf 11 = .ok (.aload_n 0, 1) := by decide +kernel
theorem dX5_valueOf_12 : decode cX5_valueOf 12 = .ok (.getfield 7, 3) := by decide +kernel
theorem dX5_valueOf_15 : decode cX5_valueOf 15 = .ok (.iconst 3, 1) := by decide +kernel
theorem dX5_valueOf_16 : decode cX5_valueOf 16 = .ok (.iload_n 2, 1) := by decide +kernel
theorem dX5_valueOf_17 : decode cX5_valueOf 17 = .ok (.imul, 1) := by decide +kernel
theorem dX5_valueOf_18 : decode cX5_valueOf 18 = .ok (.iconst 1, 1) := by decide +kernel
theorem dX5_valueOf_19 : decode cX5_valueOf 19 = .ok (.iadd, 1) := by decide +kernel
theorem dX5_valueOf_20 : decode cX5_valueOf 20 = .ok (.iaload, 1) := by decide +kernel
theorem dX5_valueOf_21 : decode cX5_valueOf 21 = .ok (.i2l, 1) := by decide +kernel
theorem dX5_valueOf_22 : decode cX5_valueOf 22 = .ok (.aload_n 0, 1) := by decide +kernel
theorem dX5_valueOf_23 : decode cX5_valueOf 23 = .ok (.getfield 7, 3) := by decide +kernel
theorem dX5_valueOf_26 : decode cX5_valueOf 26 = .ok (.iconst 3, 1) := by decide +kernel
theorem dX5_valueOf_27 : decode cX5_valueOf 27 = .ok (.iload_n 2, 1) := by decide +kernel
theorem dX5_valueOf_28 : decode cX5_valueOf 28 = .ok (.imul, 1) := by decide +kernel
theorem dX5_valueOf_29 : decode cX5_valueOf 29 = .ok (.iconst 2, 1) := by decide +kernel
theorem dX5_valueOf_30 : decode cX5_valueOf 30 = .ok (.iadd, 1) := by decide +kernel
theorem dX5_valueOf_31 : decode cX5_valueOf 31 = .ok (.iaload, 1) := by decide +kernel
theorem dX5_valueOf_32 : decode cX5_valueOf 32 = .ok (.i2l, 1) := by decide +kernel
theorem dX5_valueOf_33 : decode cX5_valueOf 33 = .ok (.invokevirtual 110, 3) := by decide +kernel
theorem dX5_valueOf_36 : decode cX5_valueOf 36 = .ok (.lreturn, 1) := by decide +kernel
set_option maxRecDepth 20000 in
theorem ggX5_on_X5_in : GoodIn wsX5_on wsX5_in := goodIn_r _ [9] (by decide +kernel) (by decide +kernel)
set_option maxRecDepth 20000 in
theorem gX5_on_X5_in : GoodIn wsX5_on (va_wsS RX5 56 yX5_in wsX5_in) := goodIn_app (goodIn_of _ (by decide +kernel)) ggX5_on_X5_in
set_option maxRecDepth 20000 in
theorem ggX5_on_X5_isOf : GoodIn wsX5_on wsX5_isOf := goodIn_r _ [13, 14, 6, 7, 8, 9, 24, 25, 26, 27, 28, 29, 30, 31, 32, 33, 34, 35, 36, 37, 38, 39, 40] (by decide +kernel) (by decide +kernel)
set_option maxRecDepth 20000 in
theorem gX5_on_X5_isOf : GoodIn wsX5_on (wsV RX5 97 RX5 yX5_isOf wsX5_isOf) := goodIn_app (goodIn_of _ (by decide +kernel)) ggX5_on_X5_isOf
set_option maxRecDepth 20000 in
theorem ggX5_on_X5_valueOf : GoodIn wsX5_on wsX5_valueOf := goodIn_r _ [18, 5, 19, 20, 21, 8, 22, 23, 24, 25, 26, 27, 28, 29, 30, 31, 32, 33, 34, 35, 36, 37, 38, 39, 40] (by decide +kernel) (by decide +kernel)
set_option maxRecDepth 20000 in
theorem gX5_on_X5_valueOf : GoodIn wsX5_on (wsV RX5 114 RX5 yX5_valueOf wsX5_valueOf) := goodIn_app (goodIn_of _ (by decide +kernel)) ggX5_on_X5_valueOf
theorem dX5_on_0 : decode cX5_on 0 = .ok (.iload_n 1, 1) := by decide +kernel
theorem dX5_on_1 : decode cX5_on 1 = .ok (.i2l, 1) := by decide +kernel
theorem dX5_on_2 : decode cX5_on 2 = .ok (.lconst 1, 1) := by decide +kernel
theorem dX5_on_3 : decode cX5_on 3 = .ok (.ldc2_w 95, 3) := by decide +kernel
theorem dX5_on_6 : decode cX5_on 6 = .ok (.invokestatic 56, 3) := by decide +kernel
theorem dX5_on_9 : decode cX5_on 9 = .ok (.ifCond .ne 6, 3) := by decide +kernel
theorem dX5_on_12 : decode cX5_on 12 = .ok (.ldc 86, 2) := by decide +kernel
theorem dX5_on_14 : decode cX5_on 14 = .ok (.ireturn, 1) := by decide +kernel
theorem dX5_on_15 : decode cX5_on 15 = .ok (.aload_n 0, 1) := by decide +kernel
theorem dX5_on_16 : decode cX5_on 16 = .ok (.iload_n 1, 1) := by decide +kernel
theorem dX5_on_17 : decode cX5_on 17 = .ok (.iload_n 2, 1) := by decide +kernel
theorem dX5_on_18 : decode cX5_on 18 = .ok (.invokevirtual 97, 3) := by decide +kernel
theorem dX5_on_21 : decode cX5_on 21 = .ok (.ifCond .eq 12, 3) := by decide +kernel
theorem dX5_on_24 : decode cX5_on 24 = .ok (.aload_n 0, 1) := by decide +kernel
theorem dX5_on_25 : decode cX5_on 25 = .ok (.iconst 0, 1) := by decide +kernel
theorem dX5_on_26 : decode cX5_on 26 = .ok (.iload_n 3, 1) := by decide +kernel
theorem dX5_on_27 : decode cX5_on 27 = .ok (.invokevirtual 97, 3) := by decide +kernel
theorem dX5_on_30 : decode cX5_on 30 = .ok (.ifCond .ne 6, 3) := by decide +kernel
theorem dX5_on_33 : decode cX5_on 33 = .ok (.ldc 101, 2) := by decide +kernel
theorem dX5_on_35 : decode cX5_on 35 = .ok (.ireturn, 1) := by decide +kernel
theorem dX5_on_36 : decode cX5_on 36 = .ok (.lconst 0, 1) := by decide +kernel
theorem dX5_on_37 : decode cX5_on 37 = .ok (.lstore 4, 2) := by decide +kernel
theorem dX5_on_39 : decode cX5_on 39 = .ok (.iconst 0, 1) := by decide +kernel
theorem dX5_on_40 : decode cX5_on 40 = .ok (.istore 6, 2) := by decide +kernel
theorem dX5_on_42 : decode cX5_on 42 = .ok (.iload 6, 2) := by decide +kernel
theorem dX5_on_44 : decode cX5_on 44 = .ok (.iconst 3, 1) := by decide +kernel
theorem dX5_on_45 : decode cX5_on 45 = .ok (.if_icmp .ge 44, 3) := by decide +kernel
theorem dX5_on_48 : decode cX5_on 48 = .ok (.iload_n 1, 1) := by decide +kernel
theorem dX5_on_49 : decode cX5_on 49 = .ok (.iconst 1, 1) := by decide +kernel
theorem dX5_on_50 : decode cX5_on 50 = .ok (.if_icmp .ne 39, 3) := by decide +kernel
theorem dX5_on_53 : decode cX5_on 53 = .ok (.lload 4, 2) := by decide +kernel
theorem dX5_on_55 : decode cX5_on 55 = .ok (.aload_n 0, 1) := by decide +kernel
theorem dX5_on_56 : decode cX5_on 56 = .ok (.getfield 13, 3) := by decide +kernel
theorem dX5_on_59 : decode cX5_on 59 = .ok (.iconst 3, 1) := by decide +kernel
theorem dX5_on_60 : decode cX5_on 60 = .ok (.iload_n 2, 1) := by decide +kernel
theorem dX5_on_61 : decode cX5_on 61 = .ok (.imul, 1) := by decide +kernel
theorem dX5_on_62 : decode cX5_on 62 = .ok (.iload 6, 2) := by decide +kernel
theorem dX5_on_64 : decode cX5_on 64 = .ok (.iadd, 1) := by decide +kernel
theorem dX5_on_65 : decode cX5_on 65 = .ok (.iaload, 1) := by decide +kernel
theorem dX5_on_66 : decode cX5_on 66 = .ok (.i2l, 1) := by decide +kernel
theorem dX5_on_67 : decode cX5_on 67 = .ok (.aload_n 0, 1) := by decide +kernel
theorem dX5_on_68 : decode cX5_on 68 = .ok (.getfield 7, 3) := by decide +kernel
theorem dX5_on_71 : decode cX5_on 71 = .ok (.iconst 3, 1) := by decide +kernel
theorem dX5_on_72 : decode cX5_on 72 = .ok (.iload_n 3, 1) := by decide +kernel
theorem dX5_on_73 : decode cX5_on 73 = .ok (.imul, 1) := by decide +kernel
theorem dX5_on_74 : decode cX5_on 74 = .ok (.iload 6, 2) := by decide +kernel
theorem dX5_on_76 : decode cX5_on 76 = .ok (.iadd, 1) := by decide +kernel
theorem dX5_on_77 : decode cX5_on 77 = .ok (.iaload, 1) := by decide +kernel
theorem dX5_on_78 : decode cX5_on 78 = .ok (.i2l, 1) := by decide +kernel
theorem dX5_on_79 : decode cX5_on 79 = .ok (.lmul, 1) := by decide +kernel
theorem dX5_on_80 : decode cX5_on 80 = .ok (.ladd, 1) := by decide +kernel
theorem dX5_on_81 : decode cX5_on 81 = .ok (.lstore 4, 2) := by decide +kernel
theorem dX5_on_83 : decode cX5_on 83 = .ok (.iinc 6 1, 3) := by decide +kernel
theorem dX5_on_86 : decode cX5_on 86 = .ok (.goto (-44), 3) := by decide +kernel
theorem dX5_on_89 : decode cX5_on 89 = .ok (.iload_n 1, 1) := by decide +kernel
theorem dX5_on_90 : decode cX5_on 90 = .ok (.iconst 2, 1) := by decide +kernel
theorem dX5_on_91 : decode cX5_on 91 = .ok (.if_icmp .ne 12, 3) := by decide +kernel
theorem dX5_on_94 : decode cX5_on 94 = .ok (.aload_n 0, 1) := by decide +kernel
theorem dX5_on_95 : decode cX5_on 95 = .ok (.iload_n 2, 1) := by decide +kernel
