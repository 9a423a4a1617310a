theorem dX4_five_158 : decode cX4_five 158 = .ok (.iload 5, 2) := by decide +kernel
theorem dX4_five_160 : decode cX4_five 160 = .ok (.invokevirtual 120, 3) := by decide +kernel
theorem dX4_five_163 : decode cX4_five 163 = .ok (.aload_n 0, 1) := by decide +kernel
theorem dX4_five_164 : decode cX4_five 164 = .ok (.getfield 63, 3) := by decide +kernel
theorem dX4_five_167 : decode cX4_five 167 = .ok (.aload_n 0, 1) := by decide +kernel
theorem dX4_five_168 : decode cX4_five 168 = .ok (.getfield 53, 3) := by decide +kernel
theorem dX4_five_171 : decode cX4_five 171 = .ok (.aload_n 0, 1) := by decide +kernel
theorem dX4_five_172 : decode cX4_five 172 = .ok (.getfield 57, 3) := by decide +kernel
theorem dX4_five_175 : decode cX4_five 175 = .ok (.aload_n 0, 1) := by decide +kernel
theorem dX4_five_176 : decode cX4_five 176 = .ok (.getfield 37, 3) := by decide +kernel
theorem dX4_five_179 : decode cX4_five 179 = .ok (.invokevirtual 147, 3) := by decide +kernel
theorem dX4_five_182 : decode cX4_five 182 = .ok (.aload_n 0, 1) := by decide +kernel
theorem dX4_five_183 : decode cX4_five 183 = .ok (.invokevirtual 151, 3) := by decide +kernel
theorem dX4_five_186 : decode cX4_five 186 = .ok (.ireturn, 1) := by decide +kernel
set_option maxRecDepth 20000 in
theorem ggX4_kind_X2_has : GoodIn wsX4_kind wsX2_has := goodIn_r _ [8, 9, 73, 74, 75] (by decide +kernel) (by decide +kernel)
set_option maxRecDepth 20000 in
theorem gX4_kind_X2_has : GoodIn wsX4_kind (wsV RX4 104 RX2 yX2_has wsX2_has) := goodIn_app (goodIn_of _ (by decide +kernel)) ggX4_kind_X2_has
set_option maxRecDepth 20000 in
theorem ggX4_kind_X0_read : GoodIn wsX4_kind wsX0_read := goodIn_r _ [14, 15, 16, 17, 7, 18, 19, 20, 21, 5, 6, 8, 9, 22, 23, 24, 13, 25, 26, 27, 28, 29, 30, 31, 32, 33, 34, 35, 73, 74, 75, 67, 68, 69, 70, 71, 72] (by decide +kernel) (by decide +kernel)
set_option maxRecDepth 20000 in
theorem gX4_kind_X0_read : GoodIn wsX4_kind (wsV RX4 128 RX0 yX0_read wsX0_read) := goodIn_app (goodIn_of _ (by decide +kernel)) ggX4_kind_X0_read
set_option maxRecDepth 20000 in
theorem ggX4_kind_X0_det : GoodIn wsX4_kind wsX0_det := goodIn_r _ [39, 40, 26, 28, 35, 27, 33, 34, 67, 68, 69, 70, 71, 72] (by decide +kernel) (by decide +kernel)
set_option maxRecDepth 20000 in
theorem gX4_kind_X0_det : GoodIn wsX4_kind (wsV RX4 155 RX0 yX0_det wsX0_det) := goodIn_app (goodIn_of _ (by decide +kernel)) ggX4_kind_X0_det
set_option maxRecDepth 20000 in
theorem ggX4_kind_X0_disc : GoodIn wsX4_kind wsX0_disc := goodIn_r _ [44, 27, 40, 26, 28, 67, 68, 69, 70, 71, 72] (by decide +kernel) (by decide +kernel)
set_option maxRecDepth 20000 in
theorem gX4_kind_X0_disc : GoodIn wsX4_kind (wsV RX4 159 RX0 yX0_disc wsX0_disc) := goodIn_app (goodIn_of _ (by decide +kernel)) ggX4_kind_X0_disc
set_option maxRecDepth 20000 in
theorem ggX4_kind_X4_properKind : GoodIn wsX4_kind wsX4_properKind := goodIn_r _ [48] (by decide +kernel) (by decide +kernel)
set_option maxRecDepth 20000 in
theorem gX4_kind_X4_properKind : GoodIn wsX4_kind (va_wsS RX4 169 yX4_properKind wsX4_properKind) := goodIn_app (goodIn_of _ (by decide +kernel)) ggX4_kind_X4_properKind
set_option maxRecDepth 20000 in
theorem ggX4_kind_X4_flatKind : GoodIn wsX4_kind wsX4_flatKind := goodIn_r _ [51, 52, 67, 68, 69, 70, 71, 72] (by decide +kernel) (by decide +kernel)
set_option maxRecDepth 20000 in
theorem gX4_kind_X4_flatKind : GoodIn wsX4_kind (va_wsS RX4 173 yX4_flatKind wsX4_flatKind) := goodIn_app (goodIn_of _ (by decide +kernel)) ggX4_kind_X4_flatKind
theorem dX4_kind_0 : decode cX4_kind 0 = .ok (.aload_n 0, 1) := by decide +kernel
theorem dX4_kind_1 : decode cX4_kind 1 = .ok (.getfield 21, 3) := by decide +kernel
theorem dX4_kind_4 : decode cX4_kind 4 = .ok (.iload_n 1, 1) := by decide +kernel
theorem dX4_kind_5 : decode cX4_kind 5 = .ok (.invokevirtual 104, 3) := by decide +kernel
theorem dX4_kind_8 : decode cX4_kind 8 = .ok (.ifCond .ne 6, 3) := by decide +kernel
theorem dX4_kind_11 : decode cX4_kind 11 = .ok (.ldc 108, 2) := by decide +kernel
theorem dX4_kind_13 : decode cX4_kind 13 = .ok (.ireturn, 1) := by decide +kernel
theorem dX4_kind_14 : decode cX4_kind 14 = .ok (.aload_n 0, 1) := by decide +kernel
theorem dX4_kind_15 : decode cX4_kind 15 = .ok (.getfield 53, 3) := by decide +kernel
theorem dX4_kind_18 : decode cX4_kind 18 = .ok (.aload_n 0, 1) := by decide +kernel
theorem dX4_kind_19 : decode cX4_kind 19 = .ok (.getfield 21, 3) := by decide +kernel
theorem dX4_kind_22 : decode cX4_kind 22 = .ok (.iload_n 1, 1) := by decide +kernel
theorem dX4_kind_23 : decode cX4_kind 23 = .ok (.invokevirtual 128, 3) := by decide +kernel
theorem dX4_kind_26 : decode cX4_kind 26 = .ok (.aload_n 0, 1) := by decide +kernel
theorem dX4_kind_27 : decode cX4_kind 27 = .ok (.getfield 53, 3) := by decide +kernel
theorem dX4_kind_30 : decode cX4_kind 30 = .ok (.invokevirtual 155, 3) := by decide +kernel
theorem dX4_kind_33 : decode cX4_kind 33 = .ok (.lstore_n 2, 1) := by decide +kernel
theorem dX4_kind_34 : decode cX4_kind 34 = .ok (.aload_n 0, 1) := by decide +kernel
theorem dX4_kind_35 : decode cX4_kind 35 = .ok (.getfield 53, 3) := by decide +kernel
theorem dX4_kind_38 : decode cX4_kind 38 = .ok (.invokevirtual 159, 3) := by decide +kernel
theorem dX4_kind_41 : decode cX4_kind 41 = .ok (.lstore 4, 2) := by decide +kernel
theorem dX4_kind_43 : decode cX4_kind 43 = .ok (.lload_n 2, 1) := by decide +kernel
theorem dX4_kind_44 : decode cX4_kind 44 = .ok (.lconst 0, 1) := by decide +kernel
theorem dX4_kind_45 : decode cX4_kind 45 = .ok (.lcmp, 1) := by decide +kernel
theorem dX4_kind_46 : decode cX4_kind 46 = .ok (.ifCond .eq 26, 3) := by decide +kernel
theorem dX4_kind_49 : decode cX4_kind 49 = .ok (.lload 4, 2) := by decide +kernel
theorem dX4_kind_51 : decode cX4_kind 51 = .ok (.aload_n 0, 1) := by decide +kernel
theorem dX4_kind_52 : decode cX4_kind 52 = .ok (.getfield 53, 3) := by decide +kernel
theorem dX4_kind_55 : decode cX4_kind 55 = .ok (.getfield 162, 3) := by decide +kernel
theorem dX4_kind_58 : decode cX4_kind 58 = .ok (.aload_n 0, 1) := by decide +kernel
theorem dX4_kind_59 : decode cX4_kind 59 = .ok (.getfield 53, 3) := by decide +kernel
theorem dX4_kind_62 : decode cX4_kind 62 = .ok (.getfield 166, 3) := by decide +kernel
theorem dX4_kind_65 : decode cX4_kind 65 = .ok (.ladd, 1) := by decide +kernel
theorem dX4_kind_66 : decode cX4_kind 66 = .ok (.lload_n 2, 1) := by decide +kernel
theorem dX4_kind_67 : decode cX4_kind 67 = .ok (.lmul, 1) := by decide +kernel
theorem dX4_kind_68 : decode cX4_kind 68 = .ok (.invokestatic 169, 3) := by decide +kernel
theorem dX4_kind_71 : decode cX4_kind 71 = .ok (.ireturn, 1) := by decide +kernel
theorem dX4_kind_72 : decode cX4_kind 72 = .ok (.lload 4, 2) := by decide +kernel
theorem dX4_kind_74 : decode cX4_kind 74 = .ok (.lconst 0, 1) := by decide +kernel
theorem dX4_kind_75 : decode cX4_kind 75 = .ok (.lcmp, 1) := by decide +kernel
theorem dX4_kind_76 : decode cX4_kind 76 = .ok (.ifCond .eq 17, 3) := by decide +kernel
theorem dX4_kind_79 : decode cX4_kind 79 = .ok (.lload 4, 2) := by decide +kernel
theorem dX4_kind_81 : decode cX4_kind 81 = .ok (.lconst 0, 1) := by decide +kernel
theorem dX4_kind_82 : decode cX4_kind 82 = .ok (.lcmp, 1) := by decide +kernel
theorem dX4_kind_83 : decode cX4_kind 83 = .ok (.ifCond .le 7, 3) := by decide +kernel
theorem dX4_kind_86 : decode cX4_kind 86 = .ok (.iconst 4, 1) := by decide +kernel
theorem dX4_kind_87 : decode cX4_kind 87 = .ok (.goto 5, 3) := by decide +kernel
theorem dX4_kind_90 : decode cX4_kind 90 = .ok (.bipush 7, 2) := by decide +kernel
theorem dX4_kind_92 : decode cX4_kind 92 = .ok (.ireturn, 1) := by decide +kernel
theorem dX4_kind_93 : decode cX4_kind 93 = .ok (.aload_n 0, 1) := by decide +kernel
theorem dX4_kind_94 : decode cX4_kind 94 = .ok (.getfield 53, 3) := by decide +kernel
theorem dX4_kind_97 : decode cX4_kind 97 = .ok (.invokestatic 173, 3) := by decide +kernel
theorem dX4_kind_100 : decode cX4_kind 100 = .ok (.ireturn, 1) := by decide +kernel
set_option maxRecDepth 20000 in
theorem ggX4_told_X2_has : GoodIn wsX4_told wsX2_has := goodIn_r _ [9, 10, 60, 61, 62] (by decide +kernel) (by decide +kernel)
set_option maxRecDepth 20000 in
theorem gX4_told_X2_has : GoodIn wsX4_told (wsV RX4 104 RX2 yX2_has wsX2_has) := goodIn_app (goodIn_of _ (by decide +kernel)) ggX4_told_X2_has
set_option maxRecDepth 20000 in
theorem ggX4_told_X0_read : GoodIn wsX4_told wsX0_read := goodIn_r _ [15, 16, 17, 18, 8, 19, 20, 21, 22, 6, 7, 9, 10, 23, 24, 25, 14, 26, 27, 28, 29, 30, 31, 32, 33, 34, 35, 36, 60, 61, 62, 63, 64, 65, 66, 67, 68] (by decide +kernel) (by decide +kernel)
set_option maxRecDepth 20000 in
theorem gX4_told_X0_read : GoodIn wsX4_told (wsV RX4 128 RX0 yX0_read wsX0_read) := goodIn_app (goodIn_of _ (by decide +kernel)) ggX4_told_X0_read
set_option maxRecDepth 20000 in
theorem ggX4_told_X0_det : GoodIn wsX4_told wsX0_det := goodIn_r _ [40, 41, 27, 29, 36, 28, 34, 35, 63, 64, 65, 66, 67, 68] (by decide +kernel) (by decide +kernel)
set_option maxRecDepth 20000 in
theorem gX4_told_X0_det : GoodIn wsX4_told (wsV RX4 155 RX0 yX0_det wsX0_det) := goodIn_app (goodIn_of _ (by decide +kernel)) ggX4_told_X0_det
set_option maxRecDepth 20000 in
theorem ggX4_told_X0_disc : GoodIn wsX4_told wsX0_disc := goodIn_r _ [45, 28, 41, 27, 29, 63, 64, 65, 66, 67, 68] (by decide +kernel) (by decide +kernel)
set_option maxRecDepth 20000 in
theorem gX4_told_X0_disc : GoodIn wsX4_told (wsV RX4 159 RX0 yX0_disc wsX0_disc) := goodIn_app (goodIn_of _ (by decide +kernel)) ggX4_told_X0_disc
theorem dX4_told_0 : decode cX4_told 0 = .ok (.aload_n 0, 1) := by decide +kernel
theorem dX4_told_1 : decode cX4_told 1 = .ok (.getfield 21, 3) := by decide +kernel
theorem dX4_told_4 : decode cX4_told 4 = .ok (.iload_n 1, 1) := by decide +kernel
theorem dX4_told_5 : decode cX4_told 5 = .ok (.invokevirtual 104, 3) := by decide +kernel
theorem dX4_told_8 : decode cX4_told 8 = .ok (.ifCond .ne 7, 3) := by decide +kernel
theorem dX4_told_11 : decode cX4_told 11 = .ok (.ldc2_w 176, 3) := by decide +kernel
theorem dX4_told_14 : decode cX4_told 14 = .ok (.lreturn, 1) := by decide +kernel
theorem dX4_told_15 : decode cX4_told 15 = .ok (.aload_n 0, 1) := by decide +kernel
theorem dX4_told_16 : decode cX4_told 16 = .ok (.getfield 53, 3) := by decide +kernel
theorem dX4_told_19 : decode cX4_told 19 = .ok (.aload_n 0, 1) := by decide +kernel
theorem dX4_told_20 : decode cX4_told 20 = .ok (.getfield 21, 3) := by decide +kernel
theorem dX4_told_23 : decode cX4_told 23 = .ok (.iload_n 1, 1) := by decide +kernel
theorem dX4_told_24 : decode cX4_told 24 = .ok (.invokevirtual 128, 3) := by decide +kernel
theorem dX4_told_27 : decode cX4_told 27 = .ok (.iload_n 2, 1) := by decide +kernel
theorem dX4_told_28 : decode cX4_told 28 = .ok (.ifCond .ne 11, 3) := by decide +kernel
theorem dX4_told_31 : decode cX4_told 31 = .ok (.aload_n 0, 1) := by decide +kernel
theorem dX4_told_32 : decode cX4_told 32 = .ok (.getfield 53, 3) := by decide +kernel
theorem dX4_told_35 : decode cX4_told 35 = .ok (.invokevirtual 155, 3) := by decide +kernel
theorem dX4_told_38 : decode cX4_told 38 = .ok (.lreturn, 1) := by decide +kernel
theorem dX4_told_39 : decode cX4_told 39 = .ok (.iload_n 2, 1) := by decide +kernel
theorem dX4_told_40 : decode cX4_told 40 = .ok (.iconst 1, 1) := by decide +kernel
theorem dX4_told_41 : decode cX4_told 41 = .ok (.if_icmp .ne 13, 3) := by decide +kernel
theorem dX4_told_44 : decode cX4_told 44 = .ok (.aload_n 0, 1) := by decide +kernel
theorem dX4_told_45 : decode cX4_told 45 = .ok (.getfield 53, 3) := by decide +kernel
theorem dX4_told_48 : decode cX4_told 48 = .ok (.invokevirtual 159, 3) := by decide +kernel
theorem dX4_told_51 : decode cX4_told 51 = .ok (.goto 6, 3) := by decide +kernel
theorem dX4_told_54 : decode cX4_told 54 = .ok (.ldc2_w 178, 3) := by decide +kernel
theorem dX4_told_57 : decode cX4_told 57 = .ok (.lreturn, 1) := by decide +kernel
set_option maxRecDepth 20000 in
theorem ggX4_round_X2_has : GoodIn wsX4_round wsX2_has := goodIn_r _ [8, 9, 56, 57, 58] (by decide +kernel) (by decide +kernel)
set_option maxRecDepth 20000 in
theorem gX4_round_X2_has : GoodIn wsX4_round (wsV RX4 104 RX2 yX2_has wsX2_has) := goodIn_app (goodIn_of _ (by decide +kernel)) ggX4_round_X2_has
set_option maxRecDepth 20000 in
theorem ggX4_round_X0_read : GoodIn wsX4_round wsX0_read := goodIn_r _ [14, 15, 16, 17, 7, 18, 19, 20, 21, 5, 6, 8, 9, 22, 23, 24, 13, 25, 26, 27, 28, 29, 30, 31, 32, 33, 34, 35, 56, 57, 58, 50, 51, 52, 53, 54, 55] (by decide +kernel) (by decide +kernel)
set_option maxRecDepth 20000 in
theorem gX4_round_X0_read : GoodIn wsX4_round (wsV RX4 128 RX0 yX0_read wsX0_read) := goodIn_app (goodIn_of _ (by decide +kernel)) ggX4_round_X0_read
theorem dX4_round_0 : decode cX4_round 0 = .ok (.aload_n 0, 1) := by decide +kernel
theorem dX4_round_1 : decode cX4_round 1 = .ok (.getfield 21, 3) := by decide +kernel
theorem dX4_round_4 : decode cX4_round 4 = .ok (.iload_n 1, 1) := by decide +kernel
theorem dX4_round_5 : decode cX4_round 5 = .ok (.invokevirtual 104, 3) := by decide +kernel
theorem dX4_round_8 : decode cX4_round 8 = .ok (.ifCond .ne 6, 3) := by decide +kernel
theorem dX4_round_11 : decode cX4_round 11 = .ok (.ldc 108, 2) := by decide +kernel
theorem dX4_round_13 : decode cX4_round 13 = .ok (.ireturn, 1) := by decide +kernel
theorem dX4_round_14 : decode cX4_round 14 = .ok (.aload_n 0, 1) := by decide +kernel
theorem dX4_round_15 : decode cX4_round 15 = .ok (.getfield 53, 3) := by decide +kernel
theorem dX4_round_18 : decode cX4_round 18 = .ok (.aload_n 0, 1) := by decide +kernel
theorem dX4_round_19 : decode cX4_round 19 = .ok (.getfield 21, 3) := by decide +kernel
theorem dX4_round_22 : decode cX4_round 22 = .ok (.iload_n 1, 1) := by decide +kernel
theorem dX4_round_23 : decode cX4_round 23 = .ok (.invokevirtual 128, 3) := by decide +kernel
theorem dX4_round_26 : decode cX4_round 26 = .ok (.aload_n 0, 1) := by decide +kernel
theorem dX4_round_27 : decode cX4_round 27 = .ok (.getfield 53, 3) := by decide +kernel
theorem dX4_round_30 : decode cX4_round 30 = .ok (.getfield 180, 3) := by decide +kernel
theorem dX4_round_33 : decode cX4_round 33 = .ok (.lconst 0, 1) := by decide +kernel
theorem dX4_round_34 : decode cX4_round 34 = .ok (.lcmp, 1) := by decide +kernel
theorem dX4_round_35 : decode cX4_round 35 = .ok (.ifCond .ne 35, 3) := by decide +kernel
theorem dX4_round_38 : decode cX4_round 38 = .ok (.aload_n 0, 1) := by decide +kernel
theorem dX4_round_39 : decode cX4_round 39 = .ok (.getfield 53, 3) := by decide +kernel
theorem dX4_round_42 : decode cX4_round 42 = .ok (.getfield 162, 3) := by decide +kernel
theorem dX4_round_45 : decode cX4_round 45 = .ok (.aload_n 0, 1) := by decide +kernel
theorem dX4_round_46 : decode cX4_round 46 = .ok (.getfield 53, 3) := by decide +kernel
theorem dX4_round_49 : decode cX4_round 49 = .ok (.getfield 166, 3) := by decide +kernel
theorem dX4_round_52 : decode cX4_round 52 = .ok (.lcmp, 1) := by decide +kernel
theorem dX4_round_53 : decode cX4_round 53 = .ok (.ifCond .ne 17, 3) := by decide +kernel
theorem dX4_round_56 : decode cX4_round 56 = .ok (.aload_n 0, 1) := by decide +kernel
theorem dX4_round_57 : decode cX4_round 57 = .ok (.getfield 53, 3) := by decide +kernel
theorem dX4_round_60 : decode cX4_round 60 = .ok (.getfield 162, 3) := by decide +kernel
theorem dX4_round_63 : decode cX4_round 63 = .ok (.lconst 0, 1) := by decide +kernel
theorem dX4_round_64 : decode cX4_round 64 = .ok (.lcmp, 1) := by decide +kernel
theorem dX4_round_65 : decode cX4_round 65 = .ok (.ifCond .eq 5, 3) := by decide +kernel
theorem dX4_round_68 : decode cX4_round 68 = .ok (.iconst 1, 1) := by decide +kernel
theorem dX4_round_69 : decode cX4_round 69 = .ok (.ireturn, 1) := by decide +kernel
theorem dX4_round_70 : decode cX4_round 70 = .ok (.aload_n 0, 1) := by decide +kernel
theorem dX4_round_71 : decode cX4_round 71 = .ok (.getfield 53, 3) := by decide +kernel
theorem dX4_round_74 : decode cX4_round 74 = .ok (.getfield 162, 3) := by decide +kernel
theorem dX4_round_77 : decode cX4_round 77 = .ok (.aload_n 0, 1) := by decide +kernel
theorem dX4_round_78 : decode cX4_round 78 = .ok (.getfield 53, 3) := by decide +kernel
theorem dX4_round_81 : decode cX4_round 81 = .ok (.getfield 166, 3) := by decide +kernel
theorem dX4_round_84 : decode cX4_round 84 = .ok (.ladd, 1) := by decide +kernel
theorem dX4_round_85 : decode cX4_round 85 = .ok (.lconst 0, 1) := by decide +kernel
theorem dX4_round_86 : decode cX4_round 86 = .ok (.lcmp, 1) := by decide +kernel
theorem dX4_round_87 : decode cX4_round 87 = .ok (.ifCond .ne 31, 3) := by decide +kernel
theorem dX4_round_90 : decode cX4_round 90 = .ok (.aload_n 0, 1) := by decide +kernel
theorem dX4_round_91 : decode cX4_round 91 = .ok (.getfield 53, 3) := by decide +kernel
theorem dX4_round_94 : decode cX4_round 94 = .ok (.getfield 162, 3) := by decide +kernel
theorem dX4_round_97 : decode cX4_round 97 = .ok (.lconst 0, 1) := by decide +kernel
theorem dX4_round_98 : decode cX4_round 98 = .ok (.lcmp, 1) := by decide +kernel
theorem dX4_round_99 : decode cX4_round 99 = .ok (.ifCond .ne 15, 3) := by decide +kernel
theorem dX4_round_102 : decode cX4_round 102 = .ok (.aload_n 0, 1) := by decide +kernel
theorem dX4_round_103 : decode cX4_round 103 = .ok (.getfield 53, 3) := by decide +kernel
theorem dX4_round_106 : decode cX4_round 106 = .ok (.getfield 180, 3) := by decide +kernel
theorem dX4_round_109 : decode cX4_round 109 = .ok (.lconst 0, 1) := by decide +kernel
theorem dX4_round_110 : decode cX4_round 110 = .ok (.lcmp, 1) := by decide +kernel
theorem dX4_round_111 : decode cX4_round 111 = .ok (.ifCond .eq 7, 3) := by decide +kernel
theorem dX4_round_114 : decode cX4_round 114 = .ok (.iconst 1, 1) := by decide +kernel
theorem dX4_round_115 : decode cX4_round 115 = .ok (.goto 4, 3) := by decide +kernel
theorem dX4_round_118 : decode cX4_round 118 = .ok (.iconst 0, 1) := by decide +kernel
theorem dX4_round_119 : decode cX4_round 119 = .ok (.istore_n 2, 1) := by decide +kernel
theorem dX4_round_120 : decode cX4_round 120 = .ok (.iload_n 2, 1) := by decide +kernel
theorem dX4_round_121 : decode cX4_round 121 = .ok (.ifCond .eq 7, 3) := by decide +kernel
theorem dX4_round_124 : decode cX4_round 124 = .ok (.iconst 2, 1) := by decide +kernel
theorem dX4_round_125 : decode cX4_round 125 = .ok (.goto 4, 3) := by decide +kernel
theorem dX4_round_128 : decode cX4_round 128 = .ok (.iconst 0, 1) := by decide +kernel
theorem dX4_round_129 : decode cX4_round 129 = .ok (.ireturn, 1) := by decide +kernel
set_option maxRecDepth 20000 in
theorem ggX4_polar_X2_has : GoodIn wsX4_polar wsX2_has := goodIn_r _ [12, 13, 113, 114, 115] (by decide +kernel) (by decide +kernel)
set_option maxRecDepth 20000 in
theorem gX4_polar_X2_has : GoodIn wsX4_polar (wsV RX4 104 RX2 yX2_has wsX2_has) := goodIn_app (goodIn_of _ (by decide +kernel)) ggX4_polar_X2_has
set_option maxRecDepth 20000 in
theorem ggX4_polar_X0_read : GoodIn wsX4_polar wsX0_read := goodIn_r _ [18, 19, 20, 21, 11, 22, 23, 24, 25, 9, 10, 12, 13, 26, 27, 28, 17, 29, 30, 31, 32, 33, 34, 35, 36, 37, 38, 39, 113, 114, 115, 116, 117, 118, 119, 120, 121] (by decide +kernel) (by decide +kernel)
set_option maxRecDepth 20000 in
theorem gX4_polar_X0_read : GoodIn wsX4_polar (wsV RX4 128 RX0 yX0_read wsX0_read) := goodIn_app (goodIn_of _ (by decide +kernel)) ggX4_polar_X0_read
set_option maxRecDepth 20000 in
theorem ggX4_polar_X3_read : GoodIn wsX4_polar wsX3_read := goodIn_r _ [44, 45, 20, 21, 11, 22, 23, 24, 25, 9, 10, 12, 13, 46, 47, 48, 43, 49, 50, 51, 52, 113, 114, 115, 122, 123, 124] (by decide +kernel) (by decide +kernel)
set_option maxRecDepth 20000 in
theorem gX4_polar_X3_read : GoodIn wsX4_polar (wsV RX4 120 RX3 yX3_read wsX3_read) := goodIn_app (goodIn_of _ (by decide +kernel)) ggX4_polar_X3_read
set_option maxRecDepth 20000 in
theorem ggX4_polar_X3_setPolar : GoodIn wsX4_polar wsX3_setPolar := goodIn_r _ [56, 57, 50, 51, 52, 46, 47, 48, 43, 49, 116, 117, 118, 119, 120, 121, 122, 123, 124] (by decide +kernel) (by decide +kernel)
set_option maxRecDepth 20000 in
theorem gX4_polar_X3_setPolar : GoodIn wsX4_polar (wsV RX4 183 RX3 yX3_setPolar wsX3_setPolar) := goodIn_app (goodIn_of _ (by decide +kernel)) ggX4_polar_X3_setPolar
set_option maxRecDepth 20000 in
theorem ggX4_polar_X4_keepTripleUnlessZero : GoodIn wsX4_polar wsX4_keepTripleUnlessZero := goodIn_r _ [62, 6, 63, 64, 65, 66, 43, 67, 50, 51, 52, 68, 69, 70, 11, 71, 72, 73, 74, 75, 76, 77, 78, 79, 80, 81, 82, 61, 83, 46, 47, 48, 49, 84, 85, 86, 87, 88, 89, 90, 91, 92, 93, 13, 23, 24, 94, 95, 96, 97, 98, 99, 100, 101, 102, 103, 104, 105, 106, 107, 108, 109, 110, 111, 112, 122, 123, 124, 113, 114, 115] (by decide +kernel) (by decide +kernel)
set_option maxRecDepth 20000 in
theorem gX4_polar_X4_keepTripleUnlessZero : GoodIn wsX4_polar (wsV RX4 187 RX4 yX4_keepTripleUnlessZero wsX4_keepTripleUnlessZero) := goodIn_app (goodIn_of _ (by decide +kernel)) ggX4_polar_X4_keepTripleUnlessZero
theorem dX4_polar_0 : decode cX4_polar 0 = .ok (.aload_n 0, 1) := by decide +kernel
theorem dX4_polar_1 : decode cX4_polar 1 = .ok (.getfield 21, 3) := by decide +kernel
theorem dX4_polar_4 : decode cX4_polar 4 = .ok (.iload_n 1, 1) := by decide +kernel
theorem dX4_polar_5 : decode cX4_polar 5 = .ok (.invokevirtual 104, 3) := by decide +kernel
theorem dX4_polar_8 : decode cX4_polar 8 = .ok (.ifCond .eq 14, 3) := by decide +kernel
theorem dX4_polar_11 : decode cX4_polar 11 = .ok (.aload_n 0, 1) := by decide +kernel
theorem dX4_polar_12 : decode cX4_polar 12 = .ok (.getfield 14, 3) := by decide +kernel
theorem dX4_polar_15 : decode cX4_polar 15 = .ok (.iload_n 2, 1) := by decide +kernel
theorem dX4_polar_16 : decode cX4_polar 16 = .ok (.invokevirtual 104, 3) := by decide +kernel
theorem dX4_polar_19 : decode cX4_polar 19 = .ok (.ifCond .ne 6, 3) := by decide +kernel
theorem dX4_polar_22 : decode cX4_polar 22 = .ok (.ldc 108, 2) := by decide +kernel
theorem dX4_polar_24 : decode cX4_polar 24 = .ok (.ireturn, 1) := by decide +kernel
theorem dX4_polar_25 : decode cX4_polar 25 = .ok (.aload_n 0, 1) := by decide +kernel
theorem dX4_polar_26 : decode cX4_polar 26 = .ok (.getfield 53, 3) := by decide +kernel
theorem dX4_polar_29 : decode cX4_polar 29 = .ok (.aload_n 0, 1) := by decide +kernel
theorem dX4_polar_30 : decode cX4_polar 30 = .ok (.getfield 21, 3) := by decide +kernel
theorem dX4_polar_33 : decode cX4_polar 33 = .ok (.iload_n 1, 1) := by decide +kernel
theorem dX4_polar_34 : decode cX4_polar 34 = .ok (.invokevirtual 128, 3) := by decide +kernel
theorem dX4_polar_37 : decode cX4_polar 37 = .ok (.aload_n 0, 1) := by decide +kernel
theorem dX4_polar_38 : decode cX4_polar 38 = .ok (.getfield 37, 3) := by decide +kernel
theorem dX4_polar_41 : decode cX4_polar 41 = .ok (.aload_n 0, 1) := by decide +kernel
theorem dX4_polar_42 : decode cX4_polar 42 = .ok (.getfield 14, 3) := by decide +kernel
theorem dX4_polar_45 : decode cX4_polar 45 = .ok (.iload_n 2, 1) := by decide +kernel
theorem dX4_polar_46 : decode cX4_polar 46 = .ok (.invokevirtual 120, 3) := by decide +kernel
theorem dX4_polar_49 : decode cX4_polar 49 = .ok (.aload_n 0, 1) := by decide +kernel
theorem dX4_polar_50 : decode cX4_polar 50 = .ok (.getfield 47, 3) := by decide +kernel
theorem dX4_polar_53 : decode cX4_polar 53 = .ok (.aload_n 0, 1) := by decide +kernel
theorem dX4_polar_54 : decode cX4_polar 54 = .ok (.getfield 53, 3) := by decide +kernel
theorem dX4_polar_57 : decode cX4_polar 57 = .ok (.aload_n 0, 1) := by decide +kernel
theorem dX4_polar_58 : decode cX4_polar 58 = .ok (.getfield 37, 3) := by decide +kernel
theorem dX4_polar_61 : decode cX4_polar 61 = .ok (.invokevirtual 183, 3) := by decide +kernel
theorem dX4_polar_64 : decode cX4_polar 64 = .ok (.aload_n 0, 1) := by decide +kernel
theorem dX4_polar_65 : decode cX4_polar 65 = .ok (.aload_n 0, 1) := by decide +kernel
theorem dX4_polar_66 : decode cX4_polar 66 = .ok (.getfield 18, 3) := by decide +kernel
theorem dX4_polar_69 : decode cX4_polar 69 = .ok (.invokevirtual 187, 3) := by decide +kernel
theorem dX4_polar_72 : decode cX4_polar 72 = .ok (.ireturn, 1) := by decide +kernel
set_option maxRecDepth 20000 in
theorem ggX4_pole_X2_has : GoodIn wsX4_pole wsX2_has := goodIn_r _ [14, 15, 123, 124, 125] (by decide +kernel) (by decide +kernel)
set_option maxRecDepth 20000 in
theorem gX4_pole_X2_has : GoodIn wsX4_pole (wsV RX4 104 RX2 yX2_has wsX2_has) := goodIn_app (goodIn_of _ (by decide +kernel)) ggX4_pole_X2_has
set_option maxRecDepth 20000 in
theorem ggX4_pole_X0_read : GoodIn wsX4_pole wsX0_read := goodIn_r _ [20, 21, 22, 23, 13, 24, 25, 26, 27, 11, 12, 14, 15, 28, 29, 30, 19, 31, 32, 33, 34, 35, 36, 37, 38, 39, 40, 41, 123, 124, 125, 126, 127, 128, 129, 130, 131] (by decide +kernel) (by decide +kernel)
set_option maxRecDepth 20000 in
theorem gX4_pole_X0_read : GoodIn wsX4_pole (wsV RX4 128 RX0 yX0_read wsX0_read) := goodIn_app (goodIn_of _ (by decide +kernel)) ggX4_pole_X0_read
set_option maxRecDepth 20000 in
theorem ggX4_pole_X0_det : GoodIn wsX4_pole wsX0_det := goodIn_r _ [45, 46, 32, 34, 41, 33, 39, 40, 126, 127, 128, 129, 130, 131] (by decide +kernel) (by decide +kernel)
set_option maxRecDepth 20000 in
theorem gX4_pole_X0_det : GoodIn wsX4_pole (wsV RX4 155 RX0 yX0_det wsX0_det) := goodIn_app (goodIn_of _ (by decide +kernel)) ggX4_pole_X0_det
set_option maxRecDepth 20000 in
theorem ggX4_pole_X3_read : GoodIn wsX4_pole wsX3_read := goodIn_r _ [51, 52, 22, 23, 13, 24, 25, 26, 27, 11, 12, 14, 15, 53, 54, 55, 50, 56, 57, 58, 59, 123, 124, 125, 132, 133, 134] (by decide +kernel) (by decide +kernel)
set_option maxRecDepth 20000 in
theorem gX4_pole_X3_read : GoodIn wsX4_pole (wsV RX4 120 RX3 yX3_read wsX3_read) := goodIn_app (goodIn_of _ (by decide +kernel)) ggX4_pole_X3_read
set_option maxRecDepth 20000 in
theorem ggX4_pole_X0_setMinors : GoodIn wsX4_pole wsX0_setMinors := goodIn_r _ [63, 46, 34, 41, 40, 39, 64, 33, 32, 28, 29, 30, 19, 31, 35, 36, 37, 38, 126, 127, 128, 129, 130, 131] (by decide +kernel) (by decide +kernel)
set_option maxRecDepth 20000 in
theorem gX4_pole_X0_setMinors : GoodIn wsX4_pole (wsV RX4 191 RX0 yX0_setMinors wsX0_setMinors) := goodIn_app (goodIn_of _ (by decide +kernel)) ggX4_pole_X0_setMinors
set_option maxRecDepth 20000 in
theorem ggX4_pole_X3_setProduct : GoodIn wsX4_pole wsX3_setProduct := goodIn_r _ [68, 57, 58, 59, 53, 54, 55, 50, 56, 126, 127, 128, 129, 130, 131, 132, 133, 134] (by decide +kernel) (by decide +kernel)
set_option maxRecDepth 20000 in
theorem gX4_pole_X3_setProduct : GoodIn wsX4_pole (wsV RX4 195 RX3 yX3_setProduct wsX3_setProduct) := goodIn_app (goodIn_of _ (by decide +kernel)) ggX4_pole_X3_setProduct
set_option maxRecDepth 20000 in
theorem ggX4_pole_X4_keepTripleUnlessZero : GoodIn wsX4_pole wsX4_keepTripleUnlessZero := goodIn_r _ [73, 8, 5, 74, 75, 76, 50, 77, 57, 58, 59, 78, 79, 80, 13, 81, 82, 83, 84, 85, 86, 87, 88, 89, 90, 91, 92, 72, 93, 53, 54, 55, 56, 94, 95, 96, 97, 98, 99, 100, 101, 102, 103, 15, 25, 26, 104, 105, 106, 107, 108, 109, 110, 111, 112, 113, 114, 115, 116, 117, 118, 119, 120, 121, 122, 132, 133, 134, 123, 124, 125] (by decide +kernel) (by decide +kernel)
set_option maxRecDepth 20000 in
theorem gX4_pole_X4_keepTripleUnlessZero : GoodIn wsX4_pole (wsV RX4 187 RX4 yX4_keepTripleUnlessZero wsX4_keepTripleUnlessZero) := goodIn_app (goodIn_of _ (by decide +kernel)) ggX4_pole_X4_keepTripleUnlessZero
theorem dX4_pole_0 : decode cX4_pole 0 = .ok (.aload_n 0, 1) := by decide +kernel
theorem dX4_pole_1 : decode cX4_pole 1 = .ok (.getfield 21, 3) := by decide +kernel
theorem dX4_pole_4 : decode cX4_pole 4 = .ok (.iload_n 1, 1) := by decide +kernel
theorem dX4_pole_5 : decode cX4_pole 5 = .ok (.invokevirtual 104, 3) := by decide +kernel
theorem dX4_pole_8 : decode cX4_pole 8 = .ok (.ifCond .eq 14, 3) := by decide +kernel
theorem dX4_pole_11 : decode cX4_pole 11 = .ok (.aload_n 0, 1) := by decide +kernel
theorem dX4_pole_12 : decode cX4_pole 12 = .ok (.getfield 18, 3) := by decide +kernel
theorem dX4_pole_15 : decode cX4_pole 15 = .ok (.iload_n 2, 1) := by decide +kernel
theorem dX4_pole_16 : decode cX4_pole 16 = .ok (.invokevirtual 104, 3) := by decide +kernel
theorem dX4_pole_19 : decode cX4_pole 19 = .ok (.ifCond .ne 6, 3) := by decide +kernel
theorem dX4_pole_22 : decode cX4_pole 22 = .ok (.ldc 108, 2) := by decide +kernel
theorem dX4_pole_24 : decode cX4_pole 24 = .ok (.ireturn, 1) := by decide +kernel
theorem dX4_pole_25 : decode cX4_pole 25 = .ok (.aload_n 0, 1) := by decide +kernel
theorem dX4_pole_26 : decode cX4_pole 26 = .ok (.getfield 53, 3) := by decide +kernel
theorem dX4_pole_29 : decode cX4_pole 29 = .ok (.aload_n 0, 1) := by decide +kernel
theorem dX4_pole_30 : decode cX4_pole 30 = .ok (.getfield 21, 3) := by decide +kernel
theorem dX4_pole_33 : decode cX4_pole 33 = .ok (.iload_n 1, 1) := by decide +kernel
theorem dX4_pole_34 : decode cX4_pole 34 = .ok (.invokevirtual 128, 3) := by decide +kernel
theorem dX4_pole_37 : decode cX4_pole 37 = .ok (.aload_n 0, 1) := by decide +kernel
theorem dX4_pole_38 : decode cX4_pole 38 = .ok (.getfield 53, 3) := by decide +kernel
theorem dX4_pole_41 : decode cX4_pole 41 = .ok (.invokevirtual 155, 3) := by decide +kernel
theorem dX4_pole_44 : decode cX4_pole 44 = .ok (.lconst 0, 1) := by decide +kernel
theorem dX4_pole_45 : decode cX4_pole 45 = .ok (.lcmp, 1) := by decide +kernel
theorem dX4_pole_46 : decode cX4_pole 46 = .ok (.ifCond .ne 6, 3) := by decide +kernel
theorem dX4_pole_49 : decode cX4_pole 49 = .ok (.ldc 138, 2) := by decide +kernel
theorem dX4_pole_51 : decode cX4_pole 51 = .ok (.ireturn, 1) := by decide +kernel
theorem dX4_pole_52 : decode cX4_pole 52 = .ok (.aload_n 0, 1) := by decide +kernel
theorem dX4_pole_53 : decode cX4_pole 53 = .ok (.getfield 37, 3) := by decide +kernel
theorem dX4_pole_56 : decode cX4_pole 56 = .ok (.aload_n 0, 1) := by decide +kernel
theorem dX4_pole_57 : decode cX4_pole 57 = .ok (.getfield 18, 3) := by decide +kernel
theorem dX4_pole_60 : decode cX4_pole 60 = .ok (.iload_n 2, 1) := by decide +kernel
theorem dX4_pole_61 : decode cX4_pole 61 = .ok (.invokevirtual 120, 3) := by decide +kernel
theorem dX4_pole_64 : decode cX4_pole 64 = .ok (.aload_n 0, 1) := by decide +kernel
theorem dX4_pole_65 : decode cX4_pole 65 = .ok (.getfield 60, 3) := by decide +kernel
theorem dX4_pole_68 : decode cX4_pole 68 = .ok (.aload_n 0, 1) := by decide +kernel
theorem dX4_pole_69 : decode cX4_pole 69 = .ok (.getfield 53, 3) := by decide +kernel
theorem dX4_pole_72 : decode cX4_pole 72 = .ok (.invokevirtual 191, 3) := by decide +kernel
theorem dX4_pole_75 : decode cX4_pole 75 = .ok (.aload_n 0, 1) := by decide +kernel
theorem dX4_pole_76 : decode cX4_pole 76 = .ok (.getfield 47, 3) := by decide +kernel
theorem dX4_pole_79 : decode cX4_pole 79 = .ok (.aload_n 0, 1) := by decide +kernel
theorem dX4_pole_80 : decode cX4_pole 80 = .ok (.getfield 60, 3) := by decide +kernel
theorem dX4_pole_83 : decode cX4_pole 83 = .ok (.aload_n 0, 1) := by decide +kernel
theorem dX4_pole_84 : decode cX4_pole 84 = .ok (.getfield 37, 3) := by decide +kernel
theorem dX4_pole_87 : decode cX4_pole 87 = .ok (.invokevirtual 195, 3) := by decide +kernel
theorem dX4_pole_90 : decode cX4_pole 90 = .ok (.aload_n 0, 1) := by decide +kernel
theorem dX4_pole_91 : decode cX4_pole 91 = .ok (.aload_n 0, 1) := by decide +kernel
theorem dX4_pole_92 : decode cX4_pole 92 = .ok (.getfield 14, 3) := by decide +kernel
theorem dX4_pole_95 : decode cX4_pole 95 = .ok (.invokevirtual 187, 3) := by decide +kernel
theorem dX4_pole_98 : decode cX4_pole 98 = .ok (.ireturn, 1) := by decide +kernel
set_option maxRecDepth 20000 in
theorem ggX4_centre_X2_has : GoodIn wsX4_centre wsX2_has := goodIn_r _ [11, 12, 115, 116, 117] (by decide +kernel) (by decide +kernel)
set_option maxRecDepth 20000 in
theorem gX4_centre_X2_has : GoodIn wsX4_centre (wsV RX4 104 RX2 yX2_has wsX2_has) := goodIn_app (goodIn_of _ (by decide +kernel)) ggX4_centre_X2_has
set_option maxRecDepth 20000 in
theorem ggX4_centre_X0_read : GoodIn wsX4_centre wsX0_read := goodIn_r _ [17, 18, 19, 20, 10, 21, 22, 23, 24, 8, 9, 11, 12, 25, 26, 27, 16, 28, 29, 30, 31, 32, 33, 34, 35, 36, 37, 38, 115, 116, 117, 109, 110, 111, 112, 113, 114] (by decide +kernel) (by decide +kernel)
set_option maxRecDepth 20000 in
theorem gX4_centre_X0_read : GoodIn wsX4_centre (wsV RX4 128 RX0 yX0_read wsX0_read) := goodIn_app (goodIn_of _ (by decide +kernel)) ggX4_centre_X0_read
set_option maxRecDepth 20000 in
theorem ggX4_centre_X0_setMinors : GoodIn wsX4_centre wsX0_setMinors := goodIn_r _ [42, 43, 31, 38, 37, 36, 44, 30, 29, 25, 26, 27, 16, 28, 32, 33, 34, 35, 109, 110, 111, 112, 113, 114] (by decide +kernel) (by decide +kernel)
set_option maxRecDepth 20000 in
theorem gX4_centre_X0_setMinors : GoodIn wsX4_centre (wsV RX4 191 RX0 yX0_setMinors wsX0_setMinors) := goodIn_app (goodIn_of _ (by decide +kernel)) ggX4_centre_X0_setMinors
set_option maxRecDepth 20000 in
theorem ggX4_centre_X3_set : GoodIn wsX4_centre wsX3_set := goodIn_r _ [49, 50, 51, 52, 118, 119, 120] (by decide +kernel) (by decide +kernel)
set_option maxRecDepth 20000 in
theorem gX4_centre_X3_set : GoodIn wsX4_centre (wsV RX4 207 RX3 yX3_set wsX3_set) := goodIn_app (goodIn_of _ (by decide +kernel)) ggX4_centre_X3_set
set_option maxRecDepth 20000 in
theorem ggX4_centre_X4_keepTripleUnlessZero : GoodIn wsX4_centre wsX4_keepTripleUnlessZero := goodIn_r _ [57, 5, 58, 59, 60, 61, 48, 62, 50, 51, 52, 63, 64, 65, 10, 66, 67, 68, 69, 70, 71, 72, 73, 74, 75, 76, 77, 56, 78, 79, 46, 47, 49, 80, 81, 82, 83, 84, 85, 86, 87, 88, 89, 12, 22, 23, 90, 91, 92, 93, 94, 95, 96, 97, 98, 99, 100, 101, 102, 103, 104, 105, 106, 107, 108, 118, 119, 120, 115, 116, 117] (by decide +kernel) (by decide +kernel)
set_option maxRecDepth 20000 in
theorem gX4_centre_X4_keepTripleUnlessZero : GoodIn wsX4_centre (wsV RX4 187 RX4 yX4_keepTripleUnlessZero wsX4_keepTripleUnlessZero) := goodIn_app (goodIn_of _ (by decide +kernel)) ggX4_centre_X4_keepTripleUnlessZero
theorem dX4_centre_0 : decode cX4_centre 0 = .ok (.aload_n 0, 1) := by decide +kernel
theorem dX4_centre_1 : decode cX4_centre 1 = .ok (.getfield 21, 3) := by decide +kernel
theorem dX4_centre_4 : decode cX4_centre 4 = .ok (.iload_n 1, 1) := by decide +kernel
theorem dX4_centre_5 : decode cX4_centre 5 = .ok (.invokevirtual 104, 3) := by decide +kernel
theorem dX4_centre_8 : decode cX4_centre 8 = .ok (.ifCond .ne 6, 3) := by decide +kernel
theorem dX4_centre_11 : decode cX4_centre 11 = .ok (.ldc 108, 2) := by decide +kernel
theorem dX4_centre_13 : decode cX4_centre 13 = .ok (.ireturn, 1) := by decide +kernel
theorem dX4_centre_14 : decode cX4_centre 14 = .ok (.aload_n 0, 1) := by decide +kernel
theorem dX4_centre_15 : decode cX4_centre 15 = .ok (.getfield 53, 3) := by decide +kernel
theorem dX4_centre_18 : decode cX4_centre 18 = .ok (.aload_n 0, 1) := by decide +kernel
theorem dX4_centre_19 : decode cX4_centre 19 = .ok (.getfield 21, 3) := by decide +kernel
theorem dX4_centre_22 : decode cX4_centre 22 = .ok (.iload_n 1, 1) := by decide +kernel
theorem dX4_centre_23 : decode cX4_centre 23 = .ok (.invokevirtual 128, 3) := by decide +kernel
theorem dX4_centre_26 : decode cX4_centre 26 = .ok (.aload_n 0, 1) := by decide +kernel
theorem dX4_centre_27 : decode cX4_centre 27 = .ok (.getfield 60, 3) := by decide +kernel
theorem dX4_centre_30 : decode cX4_centre 30 = .ok (.aload_n 0, 1) := by decide +kernel
theorem dX4_centre_31 : decode cX4_centre 31 = .ok (.getfield 53, 3) := by decide +kernel
theorem dX4_centre_34 : decode cX4_centre 34 = .ok (.invokevirtual 191, 3) := by decide +kernel
theorem dX4_centre_37 : decode cX4_centre 37 = .ok (.aload_n 0, 1) := by decide +kernel
theorem dX4_centre_38 : decode cX4_centre 38 = .ok (.getfield 47, 3) := by decide +kernel
theorem dX4_centre_41 : decode cX4_centre 41 = .ok (.aload_n 0, 1) := by decide +kernel
theorem dX4_centre_42 : decode cX4_centre 42 = .ok (.getfield 60, 3) := by decide +kernel
theorem dX4_centre_45 : decode cX4_centre 45 = .ok (.getfield 198, 3) := by decide +kernel
theorem dX4_centre_48 : decode cX4_centre 48 = .ok (.aload_n 0, 1) := by decide +kernel
theorem dX4_centre_49 : decode cX4_centre 49 = .ok (.getfield 60, 3) := by decide +kernel
theorem dX4_centre_52 : decode cX4_centre 52 = .ok (.getfield 201, 3) := by decide +kernel
theorem dX4_centre_55 : decode cX4_centre 55 = .ok (.aload_n 0, 1) := by decide +kernel
theorem dX4_centre_56 : decode cX4_centre 56 = .ok (.getfield 60, 3) := by decide +kernel
theorem dX4_centre_59 : decode cX4_centre 59 = .ok (.getfield 204, 3) := by decide +kernel
theorem dX4_centre_62 : decode cX4_centre 62 = .ok (.invokevirtual 207, 3) := by decide +kernel
theorem dX4_centre_65 : decode cX4_centre 65 = .ok (.aload_n 0, 1) := by decide +kernel
theorem dX4_centre_66 : decode cX4_centre 66 = .ok (.aload_n 0, 1) := by decide +kernel
theorem dX4_centre_67 : decode cX4_centre 67 = .ok (.getfield 14, 3) := by decide +kernel
theorem dX4_centre_70 : decode cX4_centre 70 = .ok (.invokevirtual 187, 3) := by decide +kernel
theorem dX4_centre_73 : decode cX4_centre 73 = .ok (.ireturn, 1) := by decide +kernel
set_option maxRecDepth 20000 in
theorem ggX4_dual_X2_has : GoodIn wsX4_dual wsX2_has := goodIn_r _ [12, 13, 116, 117, 118] (by decide +kernel) (by decide +kernel)
set_option maxRecDepth 20000 in
theorem gX4_dual_X2_has : GoodIn wsX4_dual (wsV RX4 104 RX2 yX2_has wsX2_has) := goodIn_app (goodIn_of _ (by decide +kernel)) ggX4_dual_X2_has
set_option maxRecDepth 20000 in
theorem ggX4_dual_X0_read : GoodIn wsX4_dual wsX0_read := goodIn_r _ [18, 19, 20, 21, 11, 22, 23, 24, 25, 9, 10, 12, 13, 26, 27, 28, 17, 29, 30, 31, 32, 33, 34, 35, 36, 37, 38, 39, 116, 117, 118, 110, 111, 112, 113, 114, 115] (by decide +kernel) (by decide +kernel)
set_option maxRecDepth 20000 in
theorem gX4_dual_X0_read : GoodIn wsX4_dual (wsV RX4 128 RX0 yX0_read wsX0_read) := goodIn_app (goodIn_of _ (by decide +kernel)) ggX4_dual_X0_read
set_option maxRecDepth 20000 in
theorem ggX4_dual_X0_det : GoodIn wsX4_dual wsX0_det := goodIn_r _ [43, 44, 30, 32, 39, 31, 37, 38, 110, 111, 112, 113, 114, 115] (by decide +kernel) (by decide +kernel)
set_option maxRecDepth 20000 in
theorem gX4_dual_X0_det : GoodIn wsX4_dual (wsV RX4 155 RX0 yX0_det wsX0_det) := goodIn_app (goodIn_of _ (by decide +kernel)) ggX4_dual_X0_det
set_option maxRecDepth 20000 in
theorem ggX4_dual_X0_setMinors : GoodIn wsX4_dual wsX0_setMinors := goodIn_r _ [48, 44, 32, 39, 38, 37, 49, 31, 30, 26, 27, 28, 17, 29, 33, 34, 35, 36, 110, 111, 112, 113, 114, 115] (by decide +kernel) (by decide +kernel)
set_option maxRecDepth 20000 in
theorem gX4_dual_X0_setMinors : GoodIn wsX4_dual (wsV RX4 191 RX0 yX0_setMinors wsX0_setMinors) := goodIn_app (goodIn_of _ (by decide +kernel)) ggX4_dual_X0_setMinors
set_option maxRecDepth 20000 in
theorem ggX4_dual_X0_setQuadratic : GoodIn wsX4_dual wsX0_setQuadratic := goodIn_r _ [29, 30, 31, 32, 110, 111, 112, 113, 114, 115] (by decide +kernel) (by decide +kernel)
set_option maxRecDepth 20000 in
theorem gX4_dual_X0_setQuadratic : GoodIn wsX4_dual (wsV RX4 74 RX0 yX0_setQuadratic wsX0_setQuadratic) := goodIn_app (goodIn_of _ (by decide +kernel)) ggX4_dual_X0_setQuadratic
set_option maxRecDepth 20000 in
theorem ggX4_dual_X0_setRest : GoodIn wsX4_dual wsX0_setRest := goodIn_r _ [36, 37, 38, 39, 110, 111, 112, 113, 114, 115] (by decide +kernel) (by decide +kernel)
set_option maxRecDepth 20000 in
theorem gX4_dual_X0_setRest : GoodIn wsX4_dual (wsV RX4 78 RX0 yX0_setRest wsX0_setRest) := goodIn_app (goodIn_of _ (by decide +kernel)) ggX4_dual_X0_setRest
set_option maxRecDepth 20000 in
theorem ggX4_dual_X4_keepFormUnlessZero : GoodIn wsX4_dual wsX4_keepFormUnlessZero := goodIn_r _ [56, 6, 4, 1, 57, 58, 59, 17, 60, 30, 31, 32, 37, 38, 39, 61, 62, 63, 11, 64, 65, 66, 67, 68, 69, 70, 71, 72, 73, 74, 75, 55, 76, 77, 78, 79, 80, 26, 27, 28, 29, 33, 34, 35, 36, 81, 82, 83, 84, 85, 86, 87, 88, 89, 90, 13, 23, 24, 91, 92, 93, 94, 95, 96, 97, 98, 99, 100, 101, 102, 103, 104, 105, 106, 107, 108, 109, 110, 111, 112, 113, 114, 115, 116, 117, 118] (by decide +kernel) (by decide +kernel)
set_option maxRecDepth 20000 in
theorem gX4_dual_X4_keepFormUnlessZero : GoodIn wsX4_dual (wsV RX4 151 RX4 yX4_keepFormUnlessZero wsX4_keepFormUnlessZero) := goodIn_app (goodIn_of _ (by decide +kernel)) ggX4_dual_X4_keepFormUnlessZero
theorem dX4_dual_0 : decode cX4_dual 0 = .ok (.aload_n 0, 1) := by decide +kernel
theorem dX4_dual_1 : decode cX4_dual 1 = .ok (.getfield 21, 3) := by decide +kernel
theorem dX4_dual_4 : decode cX4_dual 4 = .ok (.iload_n 1, 1) := by decide +kernel
theorem dX4_dual_5 : decode cX4_dual 5 = .ok (.invokevirtual 104, 3) := by decide +kernel
theorem dX4_dual_8 : decode cX4_dual 8 = .ok (.ifCond .ne 6, 3) := by decide +kernel
theorem dX4_dual_11 : decode cX4_dual 11 = .ok (.ldc 108, 2) := by decide +kernel
theorem dX4_dual_13 : decode cX4_dual 13 = .ok (.ireturn, 1) := by decide +kernel
theorem dX4_dual_14 : decode cX4_dual 14 = .ok (.aload_n 0, 1) := by decide +kernel
theorem dX4_dual_15 : decode cX4_dual 15 = .ok (.getfield 53, 3) := by decide +kernel
theorem dX4_dual_18 : decode cX4_dual 18 = .ok (.aload_n 0, 1) := by decide +kernel
theorem dX4_dual_19 : decode cX4_dual 19 = .ok (.getfield 21, 3) := by decide +kernel
theorem dX4_dual_22 : decode cX4_dual 22 = .ok (.iload_n 1, 1) := by decide +kernel
theorem dX4_dual_23 : decode cX4_dual 23 = .ok (.invokevirtual 128, 3) := by decide +kernel
theorem dX4_dual_26 : decode cX4_dual 26 = .ok (.aload_n 0, 1) := by decide +kernel
theorem dX4_dual_27 : decode cX4_dual 27 = .ok (.getfield 53, 3) := by decide +kernel
theorem dX4_dual_30 : decode cX4_dual 30 = .ok (.invokevirtual 155, 3) := by decide +kernel
theorem dX4_dual_33 : decode cX4_dual 33 = .ok (.lconst 0, 1) := by decide +kernel
theorem dX4_dual_34 : decode cX4_dual 34 = .ok (.lcmp, 1) := by decide +kernel
theorem dX4_dual_35 : decode cX4_dual 35 = .ok (.ifCond .ne 6, 3) := by decide +kernel
theorem dX4_dual_38 : decode cX4_dual 38 = .ok (.ldc 138, 2) := by decide +kernel
theorem dX4_dual_40 : decode cX4_dual 40 = .ok (.ireturn, 1) := by decide +kernel
theorem dX4_dual_41 : decode cX4_dual 41 = .ok (.aload_n 0, 1) := by decide +kernel
theorem dX4_dual_42 : decode cX4_dual 42 = .ok (.getfield 60, 3) := by decide +kernel
theorem dX4_dual_45 : decode cX4_dual 45 = .ok (.aload_n 0, 1) := by decide +kernel
theorem dX4_dual_46 : decode cX4_dual 46 = .ok (.getfield 53, 3) := by decide +kernel
theorem dX4_dual_49 : decode cX4_dual 49 = .ok (.invokevirtual 191, 3) := by decide +kernel
theorem dX4_dual_52 : decode cX4_dual 52 = .ok (.aload_n 0, 1) := by decide +kernel
theorem dX4_dual_53 : decode cX4_dual 53 = .ok (.getfield 63, 3) := by decide +kernel
theorem dX4_dual_56 : decode cX4_dual 56 = .ok (.aload_n 0, 1) := by decide +kernel
theorem dX4_dual_57 : decode cX4_dual 57 = .ok (.getfield 60, 3) := by decide +kernel
theorem dX4_dual_60 : decode cX4_dual 60 = .ok (.getfield 162, 3) := by decide +kernel
theorem dX4_dual_63 : decode cX4_dual 63 = .ok (.ldc2_w 210, 3) := by decide +kernel
theorem dX4_dual_66 : decode cX4_dual 66 = .ok (.aload_n 0, 1) := by decide +kernel
theorem dX4_dual_67 : decode cX4_dual 67 = .ok (.getfield 60, 3) := by decide +kernel
theorem dX4_dual_70 : decode cX4_dual 70 = .ok (.getfield 180, 3) := by decide +kernel
theorem dX4_dual_73 : decode cX4_dual 73 = .ok (.lmul, 1) := by decide +kernel
theorem dX4_dual_74 : decode cX4_dual 74 = .ok (.aload_n 0, 1) := by decide +kernel
theorem dX4_dual_75 : decode cX4_dual 75 = .ok (.getfield 60, 3) := by decide +kernel
theorem dX4_dual_78 : decode cX4_dual 78 = .ok (.getfield 166, 3) := by decide +kernel
theorem dX4_dual_81 : decode cX4_dual 81 = .ok (.invokevirtual 74, 3) := by decide +kernel
theorem dX4_dual_84 : decode cX4_dual 84 = .ok (.aload_n 0, 1) := by decide +kernel
theorem dX4_dual_85 : decode cX4_dual 85 = .ok (.getfield 63, 3) := by decide +kernel
theorem dX4_dual_88 : decode cX4_dual 88 = .ok (.ldc2_w 210, 3) := by decide +kernel
theorem dX4_dual_91 : decode cX4_dual 91 = .ok (.aload_n 0, 1) := by decide +kernel
theorem dX4_dual_92 : decode cX4_dual 92 = .ok (.getfield 60, 3) := by decide +kernel
theorem dX4_dual_95 : decode cX4_dual 95 = .ok (.getfield 198, 3) := by decide +kernel
