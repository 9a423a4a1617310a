theorem dX5_pole_20 : decode cX5_pole 20 = .ok (.ireturn, 1) := by decide +kernel
theorem dX5_pole_21 : decode cX5_pole 21 = .ok (.aload_n 0, 1) := by decide +kernel
theorem dX5_pole_22 : decode cX5_pole 22 = .ok (.iload_n 1, 1) := by decide +kernel
theorem dX5_pole_23 : decode cX5_pole 23 = .ok (.invokevirtual 157, 3) := by decide +kernel
theorem dX5_pole_26 : decode cX5_pole 26 = .ok (.lconst 0, 1) := by decide +kernel
theorem dX5_pole_27 : decode cX5_pole 27 = .ok (.lcmp, 1) := by decide +kernel
theorem dX5_pole_28 : decode cX5_pole 28 = .ok (.ifCond .ne 8, 3) := by decide +kernel
theorem dX5_pole_31 : decode cX5_pole 31 = .ok (.ldc 106, 2) := by decide +kernel
theorem dX5_pole_33 : decode cX5_pole 33 = .ok (.goto 14, 3) := by decide +kernel
theorem dX5_pole_36 : decode cX5_pole 36 = .ok (.aload_n 0, 1) := by decide +kernel
theorem dX5_pole_37 : decode cX5_pole 37 = .ok (.iconst 0, 1) := by decide +kernel
theorem dX5_pole_38 : decode cX5_pole 38 = .ok (.aload_n 0, 1) := by decide +kernel
theorem dX5_pole_39 : decode cX5_pole 39 = .ok (.getfield 38, 3) := by decide +kernel
theorem dX5_pole_42 : decode cX5_pole 42 = .ok (.iconst 1, 1) := by decide +kernel
theorem dX5_pole_43 : decode cX5_pole 43 = .ok (.iload_n 2, 1) := by decide +kernel
theorem dX5_pole_44 : decode cX5_pole 44 = .ok (.invokevirtual 170, 3) := by decide +kernel
theorem dX5_pole_47 : decode cX5_pole 47 = .ok (.ireturn, 1) := by decide +kernel
set_option maxRecDepth 20000 in
theorem ggX5_centre_X5_isOf : GoodIn wsX5_centre wsX5_isOf := goodIn_r _ [9, 10, 11, 12, 8, 13, 48, 49, 50, 51, 52, 53, 54, 55, 56, 57, 58, 59, 60, 61, 62, 63, 64] (by decide +kernel) (by decide +kernel)
set_option maxRecDepth 20000 in
theorem gX5_centre_X5_isOf : GoodIn wsX5_centre (wsV RX5 97 RX5 yX5_isOf wsX5_isOf) := goodIn_app (goodIn_of _ (by decide +kernel)) ggX5_centre_X5_isOf
set_option maxRecDepth 20000 in
theorem ggX5_centre_X5_layConic : GoodIn wsX5_centre wsX5_layConic := goodIn_r _ [17, 18, 19, 20, 21, 8, 22, 23, 24, 48, 49, 50, 51, 52, 53, 54, 55, 56, 57, 58, 59, 60, 61, 62, 63, 64] (by decide +kernel) (by decide +kernel)
set_option maxRecDepth 20000 in
theorem gX5_centre_X5_layConic : GoodIn wsX5_centre (wsV RX5 149 RX5 yX5_layConic wsX5_layConic) := goodIn_app (goodIn_of _ (by decide +kernel)) ggX5_centre_X5_layConic
set_option maxRecDepth 20000 in
theorem ggX5_centre_X5_layAdjoint : GoodIn wsX5_centre wsX5_layAdjoint := goodIn_r _ [28, 3, 23, 48, 49, 50, 51, 52, 53, 54, 55, 56, 57, 58, 59, 60, 61, 62, 63, 64] (by decide +kernel) (by decide +kernel)
set_option maxRecDepth 20000 in
theorem gX5_centre_X5_layAdjoint : GoodIn wsX5_centre (wsV RX5 146 RX5 yX5_layAdjoint wsX5_layAdjoint) := goodIn_app (goodIn_of _ (by decide +kernel)) ggX5_centre_X5_layAdjoint
set_option maxRecDepth 20000 in
theorem ggX5_centre_X5_keep : GoodIn wsX5_centre wsX5_keep := goodIn_r _ [32, 2, 33, 34, 35, 10, 36, 37, 38, 18, 39, 40, 8, 41, 42, 43, 44, 45, 46, 47, 11, 12, 13, 48, 49, 50, 51, 52, 53, 54, 55, 56, 57, 58, 59, 60, 61, 62, 63, 64] (by decide +kernel) (by decide +kernel)
set_option maxRecDepth 20000 in
theorem gX5_centre_X5_keep : GoodIn wsX5_centre (wsV RX5 87 RX5 yX5_keep wsX5_keep) := goodIn_app (goodIn_of _ (by decide +kernel)) ggX5_centre_X5_keep
theorem dX5_centre_0 : decode cX5_centre 0 = .ok (.aload_n 0, 1) := by decide +kernel
theorem dX5_centre_1 : decode cX5_centre 1 = .ok (.iconst 2, 1) := by decide +kernel
theorem dX5_centre_2 : decode cX5_centre 2 = .ok (.iload_n 1, 1) := by decide +kernel
theorem dX5_centre_3 : decode cX5_centre 3 = .ok (.invokevirtual 97, 3) := by decide +kernel
theorem dX5_centre_6 : decode cX5_centre 6 = .ok (.ifCond .ne 6, 3) := by decide +kernel
theorem dX5_centre_9 : decode cX5_centre 9 = .ok (.ldc 101, 2) := by decide +kernel
theorem dX5_centre_11 : decode cX5_centre 11 = .ok (.ireturn, 1) := by decide +kernel
theorem dX5_centre_12 : decode cX5_centre 12 = .ok (.aload_n 0, 1) := by decide +kernel
theorem dX5_centre_13 : decode cX5_centre 13 = .ok (.iload_n 1, 1) := by decide +kernel
theorem dX5_centre_14 : decode cX5_centre 14 = .ok (.invokevirtual 149, 3) := by decide +kernel
theorem dX5_centre_17 : decode cX5_centre 17 = .ok (.aload_n 0, 1) := by decide +kernel
theorem dX5_centre_18 : decode cX5_centre 18 = .ok (.invokevirtual 146, 3) := by decide +kernel
theorem dX5_centre_21 : decode cX5_centre 21 = .ok (.iconst 0, 1) := by decide +kernel
theorem dX5_centre_22 : decode cX5_centre 22 = .ok (.istore_n 2, 1) := by decide +kernel
theorem dX5_centre_23 : decode cX5_centre 23 = .ok (.iload_n 2, 1) := by decide +kernel
theorem dX5_centre_24 : decode cX5_centre 24 = .ok (.iconst 3, 1) := by decide +kernel
theorem dX5_centre_25 : decode cX5_centre 25 = .ok (.if_icmp .ge 25, 3) := by decide +kernel
theorem dX5_centre_28 : decode cX5_centre 28 = .ok (.aload_n 0, 1) := by decide +kernel
theorem dX5_centre_29 : decode cX5_centre 29 = .ok (.getfield 22, 3) := by decide +kernel
theorem dX5_centre_32 : decode cX5_centre 32 = .ok (.iload_n 2, 1) := by decide +kernel
theorem dX5_centre_33 : decode cX5_centre 33 = .ok (.aload_n 0, 1) := by decide +kernel
theorem dX5_centre_34 : decode cX5_centre 34 = .ok (.getfield 38, 3) := by decide +kernel
theorem dX5_centre_37 : decode cX5_centre 37 = .ok (.iconst 3, 1) := by decide +kernel
theorem dX5_centre_38 : decode cX5_centre 38 = .ok (.iload_n 2, 1) := by decide +kernel
theorem dX5_centre_39 : decode cX5_centre 39 = .ok (.imul, 1) := by decide +kernel
theorem dX5_centre_40 : decode cX5_centre 40 = .ok (.iconst 2, 1) := by decide +kernel
theorem dX5_centre_41 : decode cX5_centre 41 = .ok (.iadd, 1) := by decide +kernel
theorem dX5_centre_42 : decode cX5_centre 42 = .ok (.laload, 1) := by decide +kernel
theorem dX5_centre_43 : decode cX5_centre 43 = .ok (.lastore, 1) := by decide +kernel
theorem dX5_centre_44 : decode cX5_centre 44 = .ok (.iinc 2 1, 3) := by decide +kernel
theorem dX5_centre_47 : decode cX5_centre 47 = .ok (.goto (-24), 3) := by decide +kernel
theorem dX5_centre_50 : decode cX5_centre 50 = .ok (.aload_n 0, 1) := by decide +kernel
theorem dX5_centre_51 : decode cX5_centre 51 = .ok (.iconst 0, 1) := by decide +kernel
theorem dX5_centre_52 : decode cX5_centre 52 = .ok (.ldc 106, 2) := by decide +kernel
theorem dX5_centre_54 : decode cX5_centre 54 = .ok (.invokevirtual 87, 3) := by decide +kernel
theorem dX5_centre_57 : decode cX5_centre 57 = .ok (.ireturn, 1) := by decide +kernel
set_option maxRecDepth 20000 in
theorem ggX5_dual_X5_isOf : GoodIn wsX5_dual wsX5_isOf := goodIn_r _ [10, 11, 12, 13, 9, 14, 56, 57, 58, 59, 60, 61, 62, 63, 64, 65, 66, 67, 68, 69, 70, 71, 72] (by decide +kernel) (by decide +kernel)
set_option maxRecDepth 20000 in
theorem gX5_dual_X5_isOf : GoodIn wsX5_dual (wsV RX5 97 RX5 yX5_isOf wsX5_isOf) := goodIn_app (goodIn_of _ (by decide +kernel)) ggX5_dual_X5_isOf
set_option maxRecDepth 20000 in
theorem ggX5_dual_X5_detOf : GoodIn wsX5_dual wsX5_detOf := goodIn_r _ [18, 19, 20, 21, 9, 22, 23, 24, 25, 26, 27, 28, 5, 29, 30, 31, 32, 4, 33, 34, 35, 36, 56, 57, 58, 59, 60, 61, 62, 63, 64, 65, 66, 67, 68, 69, 70, 71, 72] (by decide +kernel) (by decide +kernel)
set_option maxRecDepth 20000 in
theorem gX5_dual_X5_detOf : GoodIn wsX5_dual (wsV RX5 157 RX5 yX5_detOf wsX5_detOf) := goodIn_app (goodIn_of _ (by decide +kernel)) ggX5_dual_X5_detOf
set_option maxRecDepth 20000 in
theorem ggX5_dual_X5_keep : GoodIn wsX5_dual wsX5_keep := goodIn_r _ [40, 3, 41, 42, 43, 11, 44, 45, 46, 23, 47, 48, 9, 49, 50, 51, 52, 53, 54, 55, 12, 13, 14, 56, 57, 58, 59, 60, 61, 62, 63, 64, 65, 66, 67, 68, 69, 70, 71, 72] (by decide +kernel) (by decide +kernel)
set_option maxRecDepth 20000 in
theorem gX5_dual_X5_keep : GoodIn wsX5_dual (wsV RX5 87 RX5 yX5_keep wsX5_keep) := goodIn_app (goodIn_of _ (by decide +kernel)) ggX5_dual_X5_keep
theorem dX5_dual_0 : decode cX5_dual 0 = .ok (.aload_n 0, 1) := by decide +kernel
theorem dX5_dual_1 : decode cX5_dual 1 = .ok (.iconst 2, 1) := by decide +kernel
theorem dX5_dual_2 : decode cX5_dual 2 = .ok (.iload_n 1, 1) := by decide +kernel
theorem dX5_dual_3 : decode cX5_dual 3 = .ok (.invokevirtual 97, 3) := by decide +kernel
theorem dX5_dual_6 : decode cX5_dual 6 = .ok (.ifCond .ne 6, 3) := by decide +kernel
theorem dX5_dual_9 : decode cX5_dual 9 = .ok (.ldc 101, 2) := by decide +kernel
theorem dX5_dual_11 : decode cX5_dual 11 = .ok (.ireturn, 1) := by decide +kernel
theorem dX5_dual_12 : decode cX5_dual 12 = .ok (.aload_n 0, 1) := by decide +kernel
theorem dX5_dual_13 : decode cX5_dual 13 = .ok (.iload_n 1, 1) := by decide +kernel
theorem dX5_dual_14 : decode cX5_dual 14 = .ok (.invokevirtual 157, 3) := by decide +kernel
theorem dX5_dual_17 : decode cX5_dual 17 = .ok (.lconst 0, 1) := by decide +kernel
theorem dX5_dual_18 : decode cX5_dual 18 = .ok (.lcmp, 1) := by decide +kernel
theorem dX5_dual_19 : decode cX5_dual 19 = .ok (.ifCond .ne 6, 3) := by decide +kernel
theorem dX5_dual_22 : decode cX5_dual 22 = .ok (.ldc 106, 2) := by decide +kernel
theorem dX5_dual_24 : decode cX5_dual 24 = .ok (.ireturn, 1) := by decide +kernel
theorem dX5_dual_25 : decode cX5_dual 25 = .ok (.aload_n 0, 1) := by decide +kernel
theorem dX5_dual_26 : decode cX5_dual 26 = .ok (.getfield 22, 3) := by decide +kernel
theorem dX5_dual_29 : decode cX5_dual 29 = .ok (.iconst 0, 1) := by decide +kernel
theorem dX5_dual_30 : decode cX5_dual 30 = .ok (.aload_n 0, 1) := by decide +kernel
theorem dX5_dual_31 : decode cX5_dual 31 = .ok (.getfield 38, 3) := by decide +kernel
theorem dX5_dual_34 : decode cX5_dual 34 = .ok (.iconst 0, 1) := by decide +kernel
theorem dX5_dual_35 : decode cX5_dual 35 = .ok (.laload, 1) := by decide +kernel
theorem dX5_dual_36 : decode cX5_dual 36 = .ok (.lastore, 1) := by decide +kernel
theorem dX5_dual_37 : decode cX5_dual 37 = .ok (.aload_n 0, 1) := by decide +kernel
theorem dX5_dual_38 : decode cX5_dual 38 = .ok (.getfield 22, 3) := by decide +kernel
theorem dX5_dual_41 : decode cX5_dual 41 = .ok (.iconst 1, 1) := by decide +kernel
theorem dX5_dual_42 : decode cX5_dual 42 = .ok (.ldc2_w 95, 3) := by decide +kernel
theorem dX5_dual_45 : decode cX5_dual 45 = .ok (.aload_n 0, 1) := by decide +kernel
theorem dX5_dual_46 : decode cX5_dual 46 = .ok (.getfield 38, 3) := by decide +kernel
theorem dX5_dual_49 : decode cX5_dual 49 = .ok (.iconst 1, 1) := by decide +kernel
theorem dX5_dual_50 : decode cX5_dual 50 = .ok (.laload, 1) := by decide +kernel
theorem dX5_dual_51 : decode cX5_dual 51 = .ok (.lmul, 1) := by decide +kernel
theorem dX5_dual_52 : decode cX5_dual 52 = .ok (.lastore, 1) := by decide +kernel
theorem dX5_dual_53 : decode cX5_dual 53 = .ok (.aload_n 0, 1) := by decide +kernel
theorem dX5_dual_54 : decode cX5_dual 54 = .ok (.getfield 22, 3) := by decide +kernel
theorem dX5_dual_57 : decode cX5_dual 57 = .ok (.iconst 2, 1) := by decide +kernel
theorem dX5_dual_58 : decode cX5_dual 58 = .ok (.aload_n 0, 1) := by decide +kernel
theorem dX5_dual_59 : decode cX5_dual 59 = .ok (.getfield 38, 3) := by decide +kernel
theorem dX5_dual_62 : decode cX5_dual 62 = .ok (.iconst 4, 1) := by decide +kernel
theorem dX5_dual_63 : decode cX5_dual 63 = .ok (.laload, 1) := by decide +kernel
theorem dX5_dual_64 : decode cX5_dual 64 = .ok (.lastore, 1) := by decide +kernel
theorem dX5_dual_65 : decode cX5_dual 65 = .ok (.aload_n 0, 1) := by decide +kernel
theorem dX5_dual_66 : decode cX5_dual 66 = .ok (.getfield 22, 3) := by decide +kernel
theorem dX5_dual_69 : decode cX5_dual 69 = .ok (.iconst 3, 1) := by decide +kernel
theorem dX5_dual_70 : decode cX5_dual 70 = .ok (.ldc2_w 95, 3) := by decide +kernel
theorem dX5_dual_73 : decode cX5_dual 73 = .ok (.aload_n 0, 1) := by decide +kernel
theorem dX5_dual_74 : decode cX5_dual 74 = .ok (.getfield 38, 3) := by decide +kernel
theorem dX5_dual_77 : decode cX5_dual 77 = .ok (.iconst 2, 1) := by decide +kernel
theorem dX5_dual_78 : decode cX5_dual 78 = .ok (.laload, 1) := by decide +kernel
theorem dX5_dual_79 : decode cX5_dual 79 = .ok (.lmul, 1) := by decide +kernel
theorem dX5_dual_80 : decode cX5_dual 80 = .ok (.lastore, 1) := by decide +kernel
theorem dX5_dual_81 : decode cX5_dual 81 = .ok (.aload_n 0, 1) := by decide +kernel
theorem dX5_dual_82 : decode cX5_dual 82 = .ok (.getfield 22, 3) := by decide +kernel
theorem dX5_dual_85 : decode cX5_dual 85 = .ok (.iconst 4, 1) := by decide +kernel
theorem dX5_dual_86 : decode cX5_dual 86 = .ok (.ldc2_w 95, 3) := by decide +kernel
theorem dX5_dual_89 : decode cX5_dual 89 = .ok (.aload_n 0, 1) := by decide +kernel
theorem dX5_dual_90 : decode cX5_dual 90 = .ok (.getfield 38, 3) := by decide +kernel
theorem dX5_dual_93 : decode cX5_dual 93 = .ok (.iconst 5, 1) := by decide +kernel
theorem dX5_dual_94 : decode cX5_dual 94 = .ok (.laload, 1) := by decide +kernel
theorem dX5_dual_95 : decode cX5_dual 95 = .ok (.lmul, 1) := by decide +kernel
theorem dX5_dual_96 : decode cX5_dual 96 = .ok (.lastore, 1) := by decide +kernel
theorem dX5_dual_97 : decode cX5_dual 97 = .ok (.aload_n 0, 1) := by decide +kernel
theorem dX5_dual_98 : decode cX5_dual 98 = .ok (.getfield 22, 3) := by decide +kernel
theorem dX5_dual_101 : decode cX5_dual 101 = .ok (.iconst 5, 1) := by decide +kernel
theorem dX5_dual_102 : decode cX5_dual 102 = .ok (.aload_n 0, 1) := by decide +kernel
theorem dX5_dual_103 : decode cX5_dual 103 = .ok (.getfield 38, 3) := by decide +kernel
theorem dX5_dual_106 : decode cX5_dual 106 = .ok (.bipush 8, 2) := by decide +kernel
theorem dX5_dual_108 : decode cX5_dual 108 = .ok (.laload, 1) := by decide +kernel
theorem dX5_dual_109 : decode cX5_dual 109 = .ok (.lastore, 1) := by decide +kernel
theorem dX5_dual_110 : decode cX5_dual 110 = .ok (.aload_n 0, 1) := by decide +kernel
theorem dX5_dual_111 : decode cX5_dual 111 = .ok (.iconst 2, 1) := by decide +kernel
theorem dX5_dual_112 : decode cX5_dual 112 = .ok (.ldc 106, 2) := by decide +kernel
theorem dX5_dual_114 : decode cX5_dual 114 = .ok (.invokevirtual 87, 3) := by decide +kernel
theorem dX5_dual_117 : decode cX5_dual 117 = .ok (.ireturn, 1) := by decide +kernel
theorem dX5_mix_0 : decode cX5_mix 0 = .ok (.iconst 0, 1) := by decide +kernel
theorem dX5_mix_1 : decode cX5_mix 1 = .ok (.istore 7, 2) := by decide +kernel
theorem dX5_mix_3 : decode cX5_mix 3 = .ok (.iload 7, 2) := by decide +kernel
theorem dX5_mix_5 : decode cX5_mix 5 = .ok (.bipush 6, 2) := by decide +kernel
theorem dX5_mix_7 : decode cX5_mix 7 = .ok (.if_icmp .ge 48, 3) := by decide +kernel
theorem dX5_mix_10 : decode cX5_mix 10 = .ok (.aload_n 0, 1) := by decide +kernel
theorem dX5_mix_11 : decode cX5_mix 11 = .ok (.getfield 22, 3) := by decide +kernel
theorem dX5_mix_14 : decode cX5_mix 14 = .ok (.iload 7, 2) := by decide +kernel
theorem dX5_mix_16 : decode cX5_mix 16 = .ok (.lload_n 3, 1) := by decide +kernel
theorem dX5_mix_17 : decode cX5_mix 17 = .ok (.aload_n 0, 1) := by decide +kernel
theorem dX5_mix_18 : decode cX5_mix 18 = .ok (.getfield 16, 3) := by decide +kernel
theorem dX5_mix_21 : decode cX5_mix 21 = .ok (.bipush 6, 2) := by decide +kernel
theorem dX5_mix_23 : decode cX5_mix 23 = .ok (.iload_n 1, 1) := by decide +kernel
theorem dX5_mix_24 : decode cX5_mix 24 = .ok (.imul, 1) := by decide +kernel
theorem dX5_mix_25 : decode cX5_mix 25 = .ok (.iload 7, 2) := by decide +kernel
theorem dX5_mix_27 : decode cX5_mix 27 = .ok (.iadd, 1) := by decide +kernel
theorem dX5_mix_28 : decode cX5_mix 28 = .ok (.iaload, 1) := by decide +kernel
theorem dX5_mix_29 : decode cX5_mix 29 = .ok (.i2l, 1) := by decide +kernel
theorem dX5_mix_30 : decode cX5_mix 30 = .ok (.lmul, 1) := by decide +kernel
theorem dX5_mix_31 : decode cX5_mix 31 = .ok (.lload 5, 2) := by decide +kernel
theorem dX5_mix_33 : decode cX5_mix 33 = .ok (.aload_n 0, 1) := by decide +kernel
theorem dX5_mix_34 : decode cX5_mix 34 = .ok (.getfield 16, 3) := by decide +kernel
theorem dX5_mix_37 : decode cX5_mix 37 = .ok (.bipush 6, 2) := by decide +kernel
theorem dX5_mix_39 : decode cX5_mix 39 = .ok (.iload_n 2, 1) := by decide +kernel
theorem dX5_mix_40 : decode cX5_mix 40 = .ok (.imul, 1) := by decide +kernel
theorem dX5_mix_41 : decode cX5_mix 41 = .ok (.iload 7, 2) := by decide +kernel
theorem dX5_mix_43 : decode cX5_mix 43 = .ok (.iadd, 1) := by decide +kernel
theorem dX5_mix_44 : decode cX5_mix 44 = .ok (.iaload, 1) := by decide +kernel
theorem dX5_mix_45 : decode cX5_mix 45 = .ok (.i2l, 1) := by decide +kernel
theorem dX5_mix_46 : decode cX5_mix 46 = .ok (.lmul, 1) := by decide +kernel
theorem dX5_mix_47 : decode cX5_mix 47 = .ok (.ladd, 1) := by decide +kernel
theorem dX5_mix_48 : decode cX5_mix 48 = .ok (.lastore, 1) := by decide +kernel
theorem dX5_mix_49 : decode cX5_mix 49 = .ok (.iinc 7 1, 3) := by decide +kernel
theorem dX5_mix_52 : decode cX5_mix 52 = .ok (.goto (-49), 3) := by decide +kernel
theorem dX5_mix_55 : decode cX5_mix 55 = .ok (.return_, 1) := by decide +kernel
set_option maxRecDepth 20000 in
theorem ggX5_member_X5_isOf : GoodIn wsX5_member wsX5_isOf := goodIn_r _ [10, 11, 12, 13, 9, 14, 38, 39, 40, 41, 42, 43, 44, 45, 46, 47, 48, 49, 50, 51, 52, 53, 54] (by decide +kernel) (by decide +kernel)
set_option maxRecDepth 20000 in
theorem gX5_member_X5_isOf : GoodIn wsX5_member (wsV RX5 97 RX5 yX5_isOf wsX5_isOf) := goodIn_app (goodIn_of _ (by decide +kernel)) ggX5_member_X5_isOf
set_option maxRecDepth 20000 in
theorem ggX5_member_X5_in : GoodIn wsX5_member wsX5_in := goodIn_r _ [14] (by decide +kernel) (by decide +kernel)
set_option maxRecDepth 20000 in
theorem gX5_member_X5_in : GoodIn wsX5_member (va_wsS RX5 56 yX5_in wsX5_in) := goodIn_app (goodIn_of _ (by decide +kernel)) ggX5_member_X5_in
set_option maxRecDepth 20000 in
theorem ggX5_member_X5_mix : GoodIn wsX5_member wsX5_mix := goodIn_r _ [18, 19, 20, 38, 39, 40, 41, 42, 43, 44, 45, 46, 47, 48, 49, 50, 51, 52, 53, 54] (by decide +kernel) (by decide +kernel)
set_option maxRecDepth 20000 in
theorem gX5_member_X5_mix : GoodIn wsX5_member (wsV RX5 174 RX5 yX5_mix wsX5_mix) := goodIn_app (goodIn_of _ (by decide +kernel)) ggX5_member_X5_mix
set_option maxRecDepth 20000 in
theorem ggX5_member_X5_keep : GoodIn wsX5_member wsX5_keep := goodIn_r _ [24, 19, 2, 3, 25, 11, 26, 27, 28, 20, 29, 30, 9, 31, 32, 33, 34, 35, 36, 37, 12, 13, 14, 38, 39, 40, 41, 42, 43, 44, 45, 46, 47, 48, 49, 50, 51, 52, 53, 54] (by decide +kernel) (by decide +kernel)
set_option maxRecDepth 20000 in
theorem gX5_member_X5_keep : GoodIn wsX5_member (wsV RX5 87 RX5 yX5_keep wsX5_keep) := goodIn_app (goodIn_of _ (by decide +kernel)) ggX5_member_X5_keep
theorem dX5_member_0 : decode cX5_member 0 = .ok (.aload_n 0, 1) := by decide +kernel
theorem dX5_member_1 : decode cX5_member 1 = .ok (.iconst 2, 1) := by decide +kernel
theorem dX5_member_2 : decode cX5_member 2 = .ok (.iload_n 1, 1) := by decide +kernel
theorem dX5_member_3 : decode cX5_member 3 = .ok (.invokevirtual 97, 3) := by decide +kernel
theorem dX5_member_6 : decode cX5_member 6 = .ok (.ifCond .eq 12, 3) := by decide +kernel
theorem dX5_member_9 : decode cX5_member 9 = .ok (.aload_n 0, 1) := by decide +kernel
theorem dX5_member_10 : decode cX5_member 10 = .ok (.iconst 2, 1) := by decide +kernel
theorem dX5_member_11 : decode cX5_member 11 = .ok (.iload_n 2, 1) := by decide +kernel
theorem dX5_member_12 : decode cX5_member 12 = .ok (.invokevirtual 97, 3) := by decide +kernel
theorem dX5_member_15 : decode cX5_member 15 = .ok (.ifCond .ne 6, 3) := by decide +kernel
theorem dX5_member_18 : decode cX5_member 18 = .ok (.ldc 101, 2) := by decide +kernel
theorem dX5_member_20 : decode cX5_member 20 = .ok (.ireturn, 1) := by decide +kernel
theorem dX5_member_21 : decode cX5_member 21 = .ok (.iload_n 3, 1) := by decide +kernel
theorem dX5_member_22 : decode cX5_member 22 = .ok (.i2l, 1) := by decide +kernel
theorem dX5_member_23 : decode cX5_member 23 = .ok (.ldc2_w 72, 3) := by decide +kernel
theorem dX5_member_26 : decode cX5_member 26 = .ok (.ldc2_w 74, 3) := by decide +kernel
theorem dX5_member_29 : decode cX5_member 29 = .ok (.invokestatic 56, 3) := by decide +kernel
theorem dX5_member_32 : decode cX5_member 32 = .ok (.ifCond .eq 18, 3) := by decide +kernel
theorem dX5_member_35 : decode cX5_member 35 = .ok (.iload 4, 2) := by decide +kernel
theorem dX5_member_37 : decode cX5_member 37 = .ok (.i2l, 1) := by decide +kernel
theorem dX5_member_38 : decode cX5_member 38 = .ok (.ldc2_w 72, 3) := by decide +kernel
theorem dX5_member_41 : decode cX5_member 41 = .ok (.ldc2_w 74, 3) := by decide +kernel
theorem dX5_member_44 : decode cX5_member 44 = .ok (.invokestatic 56, 3) := by decide +kernel
theorem dX5_member_47 : decode cX5_member 47 = .ok (.ifCond .ne 6, 3) := by decide +kernel
theorem dX5_member_50 : decode cX5_member 50 = .ok (.ldc 86, 2) := by decide +kernel
theorem dX5_member_52 : decode cX5_member 52 = .ok (.ireturn, 1) := by decide +kernel
theorem dX5_member_53 : decode cX5_member 53 = .ok (.aload_n 0, 1) := by decide +kernel
theorem dX5_member_54 : decode cX5_member 54 = .ok (.iload_n 1, 1) := by decide +kernel
theorem dX5_member_55 : decode cX5_member 55 = .ok (.iload_n 2, 1) := by decide +kernel
theorem dX5_member_56 : decode cX5_member 56 = .ok (.iload_n 3, 1) := by decide +kernel
theorem dX5_member_57 : decode cX5_member 57 = .ok (.i2l, 1) := by decide +kernel
theorem dX5_member_58 : decode cX5_member 58 = .ok (.iload 4, 2) := by decide +kernel
theorem dX5_member_60 : decode cX5_member 60 = .ok (.i2l, 1) := by decide +kernel
theorem dX5_member_61 : decode cX5_member 61 = .ok (.invokevirtual 174, 3) := by decide +kernel
theorem dX5_member_64 : decode cX5_member 64 = .ok (.aload_n 0, 1) := by decide +kernel
theorem dX5_member_65 : decode cX5_member 65 = .ok (.iconst 2, 1) := by decide +kernel
theorem dX5_member_66 : decode cX5_member 66 = .ok (.ldc 106, 2) := by decide +kernel
theorem dX5_member_68 : decode cX5_member 68 = .ok (.invokevirtual 87, 3) := by decide +kernel
theorem dX5_member_71 : decode cX5_member 71 = .ok (.ireturn, 1) := by decide +kernel
set_option maxRecDepth 20000 in
theorem ggX5_through_X5_isOf : GoodIn wsX5_through wsX5_isOf := goodIn_r _ [7, 8, 9, 10, 6, 11, 45, 46, 47, 48, 49, 50, 51, 52, 53, 54, 55, 56, 57, 58, 59, 60, 61] (by decide +kernel) (by decide +kernel)
set_option maxRecDepth 20000 in
theorem gX5_through_X5_isOf : GoodIn wsX5_through (wsV RX5 97 RX5 yX5_isOf wsX5_isOf) := goodIn_app (goodIn_of _ (by decide +kernel)) ggX5_through_X5_isOf
set_option maxRecDepth 20000 in
theorem ggX5_through_X5_valueOf : GoodIn wsX5_through wsX5_valueOf := goodIn_r _ [15, 16, 17, 18, 19, 6, 20, 21, 45, 46, 47, 48, 49, 50, 51, 52, 53, 54, 55, 56, 57, 58, 59, 60, 61] (by decide +kernel) (by decide +kernel)
set_option maxRecDepth 20000 in
theorem gX5_through_X5_valueOf : GoodIn wsX5_through (wsV RX5 114 RX5 yX5_valueOf wsX5_valueOf) := goodIn_app (goodIn_of _ (by decide +kernel)) ggX5_through_X5_valueOf
set_option maxRecDepth 20000 in
theorem ggX5_through_X5_mix : GoodIn wsX5_through wsX5_mix := goodIn_r _ [25, 26, 21, 45, 46, 47, 48, 49, 50, 51, 52, 53, 54, 55, 56, 57, 58, 59, 60, 61] (by decide +kernel) (by decide +kernel)
set_option maxRecDepth 20000 in
theorem gX5_through_X5_mix : GoodIn wsX5_through (wsV RX5 174 RX5 yX5_mix wsX5_mix) := goodIn_app (goodIn_of _ (by decide +kernel)) ggX5_through_X5_mix
set_option maxRecDepth 20000 in
theorem ggX5_through_X5_keep : GoodIn wsX5_through wsX5_keep := goodIn_r _ [30, 26, 31, 32, 33, 8, 34, 16, 35, 21, 36, 37, 6, 38, 39, 40, 41, 42, 43, 44, 9, 10, 11, 45, 46, 47, 48, 49, 50, 51, 52, 53, 54, 55, 56, 57, 58, 59, 60, 61] (by decide +kernel) (by decide +kernel)
set_option maxRecDepth 20000 in
theorem gX5_through_X5_keep : GoodIn wsX5_through (wsV RX5 87 RX5 yX5_keep wsX5_keep) := goodIn_app (goodIn_of _ (by decide +kernel)) ggX5_through_X5_keep
theorem dX5_through_0 : decode cX5_through 0 = .ok (.aload_n 0, 1) := by decide +kernel
theorem dX5_through_1 : decode cX5_through 1 = .ok (.iconst 2, 1) := by decide +kernel
theorem dX5_through_2 : decode cX5_through 2 = .ok (.iload_n 1, 1) := by decide +kernel
theorem dX5_through_3 : decode cX5_through 3 = .ok (.invokevirtual 97, 3) := by decide +kernel
theorem dX5_through_6 : decode cX5_through 6 = .ok (.ifCond .eq 21, 3) := by decide +kernel
theorem dX5_through_9 : decode cX5_through 9 = .ok (.aload_n 0, 1) := by decide +kernel
theorem dX5_through_10 : decode cX5_through 10 = .ok (.iconst 2, 1) := by decide +kernel
theorem dX5_through_11 : decode cX5_through 11 = .ok (.iload_n 2, 1) := by decide +kernel
theorem dX5_through_12 : decode cX5_through 12 = .ok (.invokevirtual 97, 3) := by decide +kernel
theorem dX5_through_15 : decode cX5_through 15 = .ok (.ifCond .eq 12, 3) := by decide +kernel
theorem dX5_through_18 : decode cX5_through 18 = .ok (.aload_n 0, 1) := by decide +kernel
theorem dX5_through_19 : decode cX5_through 19 = .ok (.iconst 0, 1) := by decide +kernel
theorem dX5_through_20 : decode cX5_through 20 = .ok (.iload_n 3, 1) := by decide +kernel
theorem dX5_through_21 : decode cX5_through 21 = .ok (.invokevirtual 97, 3) := by decide +kernel
theorem dX5_through_24 : decode cX5_through 24 = .ok (.ifCond .ne 6, 3) := by decide +kernel
theorem dX5_through_27 : decode cX5_through 27 = .ok (.ldc 101, 2) := by decide +kernel
theorem dX5_through_29 : decode cX5_through 29 = .ok (.ireturn, 1) := by decide +kernel
theorem dX5_through_30 : decode cX5_through 30 = .ok (.aload_n 0, 1) := by decide +kernel
theorem dX5_through_31 : decode cX5_through 31 = .ok (.iload_n 1, 1) := by decide +kernel
theorem dX5_through_32 : decode cX5_through 32 = .ok (.iload_n 2, 1) := by decide +kernel
theorem dX5_through_33 : decode cX5_through 33 = .ok (.aload_n 0, 1) := by decide +kernel
theorem dX5_through_34 : decode cX5_through 34 = .ok (.iload_n 2, 1) := by decide +kernel
theorem dX5_through_35 : decode cX5_through 35 = .ok (.iload_n 3, 1) := by decide +kernel
theorem dX5_through_36 : decode cX5_through 36 = .ok (.invokevirtual 114, 3) := by decide +kernel
theorem dX5_through_39 : decode cX5_through 39 = .ok (.aload_n 0, 1) := by decide +kernel
theorem dX5_through_40 : decode cX5_through 40 = .ok (.iload_n 1, 1) := by decide +kernel
theorem dX5_through_41 : decode cX5_through 41 = .ok (.iload_n 3, 1) := by decide +kernel
theorem dX5_through_42 : decode cX5_through 42 = .ok (.invokevirtual 114, 3) := by decide +kernel
theorem dX5_through_45 : decode cX5_through 45 = .ok (.lneg, 1) := by decide +kernel
theorem dX5_through_46 : decode cX5_through 46 = .ok (.invokevirtual 174, 3) := by decide +kernel
theorem dX5_through_49 : decode cX5_through 49 = .ok (.aload_n 0, 1) := by decide +kernel
theorem dX5_through_50 : decode cX5_through 50 = .ok (.iconst 2, 1) := by decide +kernel
theorem dX5_through_51 : decode cX5_through 51 = .ok (.ldc 106, 2) := by decide +kernel
theorem dX5_through_53 : decode cX5_through 53 = .ok (.invokevirtual 87, 3) := by decide +kernel
theorem dX5_through_56 : decode cX5_through 56 = .ok (.ireturn, 1) := by decide +kernel
set_option maxRecDepth 20000 in
theorem ggX5_detOfMix_X5_mix : GoodIn wsX5_detOfMix wsX5_mix := goodIn_r _ [6, 1, 7, 23, 24, 25, 26, 27, 28, 29, 30, 31, 32, 33, 34, 35, 36, 37, 38, 39] (by decide +kernel) (by decide +kernel)
set_option maxRecDepth 20000 in
theorem gX5_detOfMix_X5_mix : GoodIn wsX5_detOfMix (wsV RX5 174 RX5 yX5_mix wsX5_mix) := goodIn_app (goodIn_of _ (by decide +kernel)) ggX5_detOfMix_X5_mix
set_option maxRecDepth 20000 in
theorem ggX5_detOfMix_X5_layMatrix : GoodIn wsX5_detOfMix wsX5_layMatrix := goodIn_r _ [11, 12, 13, 23, 24, 25, 26, 27, 28, 29, 30, 31, 32, 33, 34, 35, 36, 37, 38, 39] (by decide +kernel) (by decide +kernel)
set_option maxRecDepth 20000 in
theorem gX5_detOfMix_X5_layMatrix : GoodIn wsX5_detOfMix (wsV RX5 142 RX5 yX5_layMatrix wsX5_layMatrix) := goodIn_app (goodIn_of _ (by decide +kernel)) ggX5_detOfMix_X5_layMatrix
set_option maxRecDepth 20000 in
theorem ggX5_detOfMix_X5_det : GoodIn wsX5_detOfMix wsX5_det := goodIn_r _ [17, 12, 18, 13, 19, 20, 21, 5, 22, 23, 24, 25, 26, 27, 28, 29, 30, 31, 32, 33, 34, 35, 36, 37, 38, 39] (by decide +kernel) (by decide +kernel)
set_option maxRecDepth 20000 in
theorem gX5_detOfMix_X5_det : GoodIn wsX5_detOfMix (wsV RX5 153 RX5 yX5_det wsX5_det) := goodIn_app (goodIn_of _ (by decide +kernel)) ggX5_detOfMix_X5_det
theorem dX5_detOfMix_0 : decode cX5_detOfMix 0 = .ok (.aload_n 0, 1) := by decide +kernel
theorem dX5_detOfMix_1 : decode cX5_detOfMix 1 = .ok (.iload_n 1, 1) := by decide +kernel
theorem dX5_detOfMix_2 : decode cX5_detOfMix 2 = .ok (.iload_n 2, 1) := by decide +kernel
theorem dX5_detOfMix_3 : decode cX5_detOfMix 3 = .ok (.lload_n 3, 1) := by decide +kernel
theorem dX5_detOfMix_4 : decode cX5_detOfMix 4 = .ok (.lload 5, 2) := by decide +kernel
theorem dX5_detOfMix_6 : decode cX5_detOfMix 6 = .ok (.invokevirtual 174, 3) := by decide +kernel
theorem dX5_detOfMix_9 : decode cX5_detOfMix 9 = .ok (.aload_n 0, 1) := by decide +kernel
theorem dX5_detOfMix_10 : decode cX5_detOfMix 10 = .ok (.aload_n 0, 1) := by decide +kernel
theorem dX5_detOfMix_11 : decode cX5_detOfMix 11 = .ok (.getfield 22, 3) := by decide +kernel
theorem dX5_detOfMix_14 : decode cX5_detOfMix 14 = .ok (.iconst 0, 1) := by decide +kernel
theorem dX5_detOfMix_15 : decode cX5_detOfMix 15 = .ok (.laload, 1) := by decide +kernel
theorem dX5_detOfMix_16 : decode cX5_detOfMix 16 = .ok (.aload_n 0, 1) := by decide +kernel
theorem dX5_detOfMix_17 : decode cX5_detOfMix 17 = .ok (.getfield 22, 3) := by decide +kernel
theorem dX5_detOfMix_20 : decode cX5_detOfMix 20 = .ok (.iconst 1, 1) := by decide +kernel
theorem dX5_detOfMix_21 : decode cX5_detOfMix 21 = .ok (.laload, 1) := by decide +kernel
theorem dX5_detOfMix_22 : decode cX5_detOfMix 22 = .ok (.aload_n 0, 1) := by decide +kernel
theorem dX5_detOfMix_23 : decode cX5_detOfMix 23 = .ok (.getfield 22, 3) := by decide +kernel
theorem dX5_detOfMix_26 : decode cX5_detOfMix 26 = .ok (.iconst 2, 1) := by decide +kernel
theorem dX5_detOfMix_27 : decode cX5_detOfMix 27 = .ok (.laload, 1) := by decide +kernel
theorem dX5_detOfMix_28 : decode cX5_detOfMix 28 = .ok (.aload_n 0, 1) := by decide +kernel
theorem dX5_detOfMix_29 : decode cX5_detOfMix 29 = .ok (.getfield 22, 3) := by decide +kernel
theorem dX5_detOfMix_32 : decode cX5_detOfMix 32 = .ok (.iconst 3, 1) := by decide +kernel
theorem dX5_detOfMix_33 : decode cX5_detOfMix 33 = .ok (.laload, 1) := by decide +kernel
theorem dX5_detOfMix_34 : decode cX5_detOfMix 34 = .ok (.aload_n 0, 1) := by decide +kernel
theorem dX5_detOfMix_35 : decode cX5_detOfMix 35 = .ok (.getfield 22, 3) := by decide +kernel
theorem dX5_detOfMix_38 : decode cX5_detOfMix 38 = .ok (.iconst 4, 1) := by decide +kernel
theorem dX5_detOfMix_39 : decode cX5_detOfMix 39 = .ok (.laload, 1) := by decide +kernel
theorem dX5_detOfMix_40 : decode cX5_detOfMix 40 = .ok (.aload_n 0, 1) := by decide +kernel
theorem dX5_detOfMix_41 : decode cX5_detOfMix 41 = .ok (.getfield 22, 3) := by decide +kernel
theorem dX5_detOfMix_44 : decode cX5_detOfMix 44 = .ok (.iconst 5, 1) := by decide +kernel
theorem dX5_detOfMix_45 : decode cX5_detOfMix 45 = .ok (.laload, 1) := by decide +kernel
theorem dX5_detOfMix_46 : decode cX5_detOfMix 46 = .ok (.invokevirtual 142, 3) := by decide +kernel
theorem dX5_detOfMix_49 : decode cX5_detOfMix 49 = .ok (.aload_n 0, 1) := by decide +kernel
theorem dX5_detOfMix_50 : decode cX5_detOfMix 50 = .ok (.invokevirtual 153, 3) := by decide +kernel
theorem dX5_detOfMix_53 : decode cX5_detOfMix 53 = .ok (.lreturn, 1) := by decide +kernel
set_option maxRecDepth 20000 in
theorem ggX5_cubic_X5_isOf : GoodIn wsX5_cubic wsX5_isOf := goodIn_r _ [10, 11, 12, 13, 9, 14, 47, 48, 49, 50, 51, 52, 53, 54, 55, 56, 57, 58, 59, 60, 61, 62, 63] (by decide +kernel) (by decide +kernel)
set_option maxRecDepth 20000 in
theorem gX5_cubic_X5_isOf : GoodIn wsX5_cubic (wsV RX5 97 RX5 yX5_isOf wsX5_isOf) := goodIn_app (goodIn_of _ (by decide +kernel)) ggX5_cubic_X5_isOf
set_option maxRecDepth 20000 in
theorem ggX5_cubic_X5_in : GoodIn wsX5_cubic wsX5_in := goodIn_r _ [14] (by decide +kernel) (by decide +kernel)
set_option maxRecDepth 20000 in
theorem gX5_cubic_X5_in : GoodIn wsX5_cubic (va_wsS RX5 56 yX5_in wsX5_in) := goodIn_app (goodIn_of _ (by decide +kernel)) ggX5_cubic_X5_in
set_option maxRecDepth 20000 in
theorem ggX5_cubic_X5_detOf : GoodIn wsX5_cubic wsX5_detOf := goodIn_r _ [18, 19, 20, 21, 9, 22, 23, 24, 25, 26, 27, 28, 5, 29, 30, 31, 32, 33, 34, 35, 36, 37, 47, 48, 49, 50, 51, 52, 53, 54, 55, 56, 57, 58, 59, 60, 61, 62, 63] (by decide +kernel) (by decide +kernel)
set_option maxRecDepth 20000 in
theorem gX5_cubic_X5_detOf : GoodIn wsX5_cubic (wsV RX5 157 RX5 yX5_detOf wsX5_detOf) := goodIn_app (goodIn_of _ (by decide +kernel)) ggX5_cubic_X5_detOf
set_option maxRecDepth 20000 in
theorem ggX5_cubic_X5_detOfMix : GoodIn wsX5_cubic wsX5_detOfMix := goodIn_r _ [41, 42, 43, 44, 45, 9, 46, 23, 24, 25, 26, 27, 28, 5, 29, 30, 31, 32, 33, 34, 35, 36, 37, 47, 48, 49, 50, 51, 52, 53, 54, 55, 56, 57, 58, 59, 60, 61, 62, 63] (by decide +kernel) (by decide +kernel)
set_option maxRecDepth 20000 in
theorem gX5_cubic_X5_detOfMix : GoodIn wsX5_cubic (wsV RX5 180 RX5 yX5_detOfMix wsX5_detOfMix) := goodIn_app (goodIn_of _ (by decide +kernel)) ggX5_cubic_X5_detOfMix
theorem dX5_cubic_0 : decode cX5_cubic 0 = .ok (.aload_n 0, 1) := by decide +kernel
theorem dX5_cubic_1 : decode cX5_cubic 1 = .ok (.iconst 2, 1) := by decide +kernel
theorem dX5_cubic_2 : decode cX5_cubic 2 = .ok (.iload_n 1, 1) := by decide +kernel
theorem dX5_cubic_3 : decode cX5_cubic 3 = .ok (.invokevirtual 97, 3) := by decide +kernel
theorem dX5_cubic_6 : decode cX5_cubic 6 = .ok (.ifCond .eq 12, 3) := by decide +kernel
theorem dX5_cubic_9 : decode cX5_cubic 9 = .ok (.aload_n 0, 1) := by decide +kernel
theorem dX5_cubic_10 : decode cX5_cubic 10 = .ok (.iconst 2, 1) := by decide +kernel
theorem dX5_cubic_11 : decode cX5_cubic 11 = .ok (.iload_n 2, 1) := by decide +kernel
theorem dX5_cubic_12 : decode cX5_cubic 12 = .ok (.invokevirtual 97, 3) := by decide +kernel
theorem dX5_cubic_15 : decode cX5_cubic 15 = .ok (.ifCond .ne 7, 3) := by decide +kernel
theorem dX5_cubic_18 : decode cX5_cubic 18 = .ok (.ldc2_w 166, 3) := by decide +kernel
theorem dX5_cubic_21 : decode cX5_cubic 21 = .ok (.lreturn, 1) := by decide +kernel
theorem dX5_cubic_22 : decode cX5_cubic 22 = .ok (.iload_n 3, 1) := by decide +kernel
theorem dX5_cubic_23 : decode cX5_cubic 23 = .ok (.i2l, 1) := by decide +kernel
theorem dX5_cubic_24 : decode cX5_cubic 24 = .ok (.lconst 0, 1) := by decide +kernel
theorem dX5_cubic_25 : decode cX5_cubic 25 = .ok (.ldc2_w 178, 3) := by decide +kernel
theorem dX5_cubic_28 : decode cX5_cubic 28 = .ok (.invokestatic 56, 3) := by decide +kernel
theorem dX5_cubic_31 : decode cX5_cubic 31 = .ok (.ifCond .ne 7, 3) := by decide +kernel
theorem dX5_cubic_34 : decode cX5_cubic 34 = .ok (.ldc2_w 168, 3) := by decide +kernel
theorem dX5_cubic_37 : decode cX5_cubic 37 = .ok (.lreturn, 1) := by decide +kernel
theorem dX5_cubic_38 : decode cX5_cubic 38 = .ok (.aload_n 0, 1) := by decide +kernel
theorem dX5_cubic_39 : decode cX5_cubic 39 = .ok (.iload_n 1, 1) := by decide +kernel
theorem dX5_cubic_40 : decode cX5_cubic 40 = .ok (.invokevirtual 157, 3) := by decide +kernel
theorem dX5_cubic_43 : decode cX5_cubic 43 = .ok (.lstore 4, 2) := by decide +kernel
theorem dX5_cubic_45 : decode cX5_cubic 45 = .ok (.aload_n 0, 1) := by decide +kernel
theorem dX5_cubic_46 : decode cX5_cubic 46 = .ok (.iload_n 2, 1) := by decide +kernel
theorem dX5_cubic_47 : decode cX5_cubic 47 = .ok (.invokevirtual 157, 3) := by decide +kernel
theorem dX5_cubic_50 : decode cX5_cubic 50 = .ok (.lstore 6, 2) := by decide +kernel
theorem dX5_cubic_52 : decode cX5_cubic 52 = .ok (.aload_n 0, 1) := by decide +kernel
theorem dX5_cubic_53 : decode cX5_cubic 53 = .ok (.iload_n 1, 1) := by decide +kernel
theorem dX5_cubic_54 : decode cX5_cubic 54 = .ok (.iload_n 2, 1) := by decide +kernel
theorem dX5_cubic_55 : decode cX5_cubic 55 = .ok (.lconst 1, 1) := by decide +kernel
theorem dX5_cubic_56 : decode cX5_cubic 56 = .ok (.lconst 1, 1) := by decide +kernel
theorem dX5_cubic_57 : decode cX5_cubic 57 = .ok (.invokevirtual 180, 3) := by decide +kernel
theorem dX5_cubic_60 : decode cX5_cubic 60 = .ok (.lstore 8, 2) := by decide +kernel
theorem dX5_cubic_62 : decode cX5_cubic 62 = .ok (.aload_n 0, 1) := by decide +kernel
theorem dX5_cubic_63 : decode cX5_cubic 63 = .ok (.iload_n 1, 1) := by decide +kernel
theorem dX5_cubic_64 : decode cX5_cubic 64 = .ok (.iload_n 2, 1) := by decide +kernel
theorem dX5_cubic_65 : decode cX5_cubic 65 = .ok (.lconst 1, 1) := by decide +kernel
theorem dX5_cubic_66 : decode cX5_cubic 66 = .ok (.ldc2_w 184, 3) := by decide +kernel
theorem dX5_cubic_69 : decode cX5_cubic 69 = .ok (.invokevirtual 180, 3) := by decide +kernel
theorem dX5_cubic_72 : decode cX5_cubic 72 = .ok (.lstore 10, 2) := by decide +kernel
theorem dX5_cubic_74 : decode cX5_cubic 74 = .ok (.iload_n 3, 1) := by decide +kernel
theorem dX5_cubic_75 : decode cX5_cubic 75 = .ok (.ifCond .ne 8, 3) := by decide +kernel
theorem dX5_cubic_78 : decode cX5_cubic 78 = .ok (.lload 4, 2) := by decide +kernel
theorem dX5_cubic_80 : decode cX5_cubic 80 = .ok (.goto 45, 3) := by decide +kernel
theorem dX5_cubic_83 : decode cX5_cubic 83 = .ok (.iload_n 3, 1) := by decide +kernel
theorem dX5_cubic_84 : decode cX5_cubic 84 = .ok (.iconst 3, 1) := by decide +kernel
theorem dX5_cubic_85 : decode cX5_cubic 85 = .ok (.if_icmp .ne 8, 3) := by decide +kernel
theorem dX5_cubic_88 : decode cX5_cubic 88 = .ok (.lload 6, 2) := by decide +kernel
theorem dX5_cubic_90 : decode cX5_cubic 90 = .ok (.goto 35, 3) := by decide +kernel
theorem dX5_cubic_93 : decode cX5_cubic 93 = .ok (.iload_n 3, 1) := by decide +kernel
theorem dX5_cubic_94 : decode cX5_cubic 94 = .ok (.iconst 1, 1) := by decide +kernel
theorem dX5_cubic_95 : decode cX5_cubic 95 = .ok (.if_icmp .ne 18, 3) := by decide +kernel
theorem dX5_cubic_98 : decode cX5_cubic 98 = .ok (.lload 8, 2) := by decide +kernel
theorem dX5_cubic_100 : decode cX5_cubic 100 = .ok (.lload 10, 2) := by decide +kernel
theorem dX5_cubic_102 : decode cX5_cubic 102 = .ok (.lsub, 1) := by decide +kernel
theorem dX5_cubic_103 : decode cX5_cubic 103 = .ok (.ldc2_w 95, 3) := by decide +kernel
theorem dX5_cubic_106 : decode cX5_cubic 106 = .ok (.ldiv, 1) := by decide +kernel
theorem dX5_cubic_107 : decode cX5_cubic 107 = .ok (.lload 6, 2) := by decide +kernel
theorem dX5_cubic_109 : decode cX5_cubic 109 = .ok (.lsub, 1) := by decide +kernel
theorem dX5_cubic_110 : decode cX5_cubic 110 = .ok (.goto 15, 3) := by decide +kernel
theorem dX5_cubic_113 : decode cX5_cubic 113 = .ok (.lload 8, 2) := by decide +kernel
theorem dX5_cubic_115 : decode cX5_cubic 115 = .ok (.lload 10, 2) := by decide +kernel
theorem dX5_cubic_117 : decode cX5_cubic 117 = .ok (.ladd, 1) := by decide +kernel
theorem dX5_cubic_118 : decode cX5_cubic 118 = .ok (.ldc2_w 95, 3) := by decide +kernel
theorem dX5_cubic_121 : decode cX5_cubic 121 = .ok (.ldiv, 1) := by decide +kernel
theorem dX5_cubic_122 : decode cX5_cubic 122 = .ok (.lload 4, 2) := by decide +kernel
theorem dX5_cubic_124 : decode cX5_cubic 124 = .ok (.lsub, 1) := by decide +kernel
theorem dX5_cubic_125 : decode cX5_cubic 125 = .ok (.lreturn, 1) := by decide +kernel
set_option maxRecDepth 20000 in
theorem ggX5_layTwo_X5_norm : GoodIn wsX5_layTwo wsX5_norm := goodIn_r _ [7, 8, 9, 6, 10] (by decide +kernel) (by decide +kernel)
set_option maxRecDepth 20000 in
theorem gX5_layTwo_X5_norm : GoodIn wsX5_layTwo (va_wsS RX5 68 yX5_norm wsX5_norm) := goodIn_app (goodIn_of _ (by decide +kernel)) ggX5_layTwo_X5_norm
theorem dX5_layTwo_0 : decode cX5_layTwo 0 = .ok (.aload_n 0, 1) := by decide +kernel
theorem dX5_layTwo_1 : decode cX5_layTwo 1 = .ok (.getfield 13, 3) := by decide +kernel
theorem dX5_layTwo_4 : decode cX5_layTwo 4 = .ok (.iconst 3, 1) := by decide +kernel
theorem dX5_layTwo_5 : decode cX5_layTwo 5 = .ok (.iload_n 1, 1) := by decide +kernel
theorem dX5_layTwo_6 : decode cX5_layTwo 6 = .ok (.imul, 1) := by decide +kernel
theorem dX5_layTwo_7 : decode cX5_layTwo 7 = .ok (.iaload, 1) := by decide +kernel
theorem dX5_layTwo_8 : decode cX5_layTwo 8 = .ok (.i2l, 1) := by decide +kernel
theorem dX5_layTwo_9 : decode cX5_layTwo 9 = .ok (.lstore_n 2, 1) := by decide +kernel
theorem dX5_layTwo_10 : decode cX5_layTwo 10 = .ok (.aload_n 0, 1) := by decide +kernel
theorem dX5_layTwo_11 : decode cX5_layTwo 11 = .ok (.getfield 13, 3) := by decide +kernel
theorem dX5_layTwo_14 : decode cX5_layTwo 14 = .ok (.iconst 3, 1) := by decide +kernel
theorem dX5_layTwo_15 : decode cX5_layTwo 15 = .ok (.iload_n 1, 1) := by decide +kernel
theorem dX5_layTwo_16 : decode cX5_layTwo 16 = .ok (.imul, 1) := by decide +kernel
