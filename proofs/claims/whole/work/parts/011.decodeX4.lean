theorem dX4_setCrossed_79 : decode cX4_setCrossed 79 = .ok (.aload_n 0, 1) := by decide +kernel
theorem dX4_setCrossed_80 : decode cX4_setCrossed 80 = .ok (.getfield 47, 3) := by decide +kernel
theorem dX4_setCrossed_83 : decode cX4_setCrossed 83 = .ok (.aload_n 3, 1) := by decide +kernel
theorem dX4_setCrossed_84 : decode cX4_setCrossed 84 = .ok (.getfield 278, 3) := by decide +kernel
theorem dX4_setCrossed_87 : decode cX4_setCrossed 87 = .ok (.aload_n 3, 1) := by decide +kernel
theorem dX4_setCrossed_88 : decode cX4_setCrossed 88 = .ok (.getfield 281, 3) := by decide +kernel
theorem dX4_setCrossed_91 : decode cX4_setCrossed 91 = .ok (.lneg, 1) := by decide +kernel
theorem dX4_setCrossed_92 : decode cX4_setCrossed 92 = .ok (.lconst 0, 1) := by decide +kernel
theorem dX4_setCrossed_93 : decode cX4_setCrossed 93 = .ok (.invokevirtual 207, 3) := by decide +kernel
theorem dX4_setCrossed_96 : decode cX4_setCrossed 96 = .ok (.aload_n 0, 1) := by decide +kernel
theorem dX4_setCrossed_97 : decode cX4_setCrossed 97 = .ok (.getfield 41, 3) := by decide +kernel
theorem dX4_setCrossed_100 : decode cX4_setCrossed 100 = .ok (.aload_n 0, 1) := by decide +kernel
theorem dX4_setCrossed_101 : decode cX4_setCrossed 101 = .ok (.getfield 47, 3) := by decide +kernel
theorem dX4_setCrossed_104 : decode cX4_setCrossed 104 = .ok (.invokevirtual 124, 3) := by decide +kernel
theorem dX4_setCrossed_107 : decode cX4_setCrossed 107 = .ok (.lstore 10, 2) := by decide +kernel
theorem dX4_setCrossed_109 : decode cX4_setCrossed 109 = .ok (.aload_n 2, 1) := by decide +kernel
theorem dX4_setCrossed_110 : decode cX4_setCrossed 110 = .ok (.aload_n 0, 1) := by decide +kernel
theorem dX4_setCrossed_111 : decode cX4_setCrossed 111 = .ok (.getfield 47, 3) := by decide +kernel
theorem dX4_setCrossed_114 : decode cX4_setCrossed 114 = .ok (.invokevirtual 129, 3) := by decide +kernel
theorem dX4_setCrossed_117 : decode cX4_setCrossed 117 = .ok (.lstore 12, 2) := by decide +kernel
theorem dX4_setCrossed_119 : decode cX4_setCrossed 119 = .ok (.aload_n 0, 1) := by decide +kernel
theorem dX4_setCrossed_120 : decode cX4_setCrossed 120 = .ok (.getfield 41, 3) := by decide +kernel
theorem dX4_setCrossed_123 : decode cX4_setCrossed 123 = .ok (.aload_n 2, 1) := by decide +kernel
theorem dX4_setCrossed_124 : decode cX4_setCrossed 124 = .ok (.aload_n 0, 1) := by decide +kernel
theorem dX4_setCrossed_125 : decode cX4_setCrossed 125 = .ok (.getfield 47, 3) := by decide +kernel
theorem dX4_setCrossed_128 : decode cX4_setCrossed 128 = .ok (.invokevirtual 183, 3) := by decide +kernel
theorem dX4_setCrossed_131 : decode cX4_setCrossed 131 = .ok (.aload_n 0, 1) := by decide +kernel
theorem dX4_setCrossed_132 : decode cX4_setCrossed 132 = .ok (.getfield 47, 3) := by decide +kernel
theorem dX4_setCrossed_135 : decode cX4_setCrossed 135 = .ok (.aload_n 3, 1) := by decide +kernel
theorem dX4_setCrossed_136 : decode cX4_setCrossed 136 = .ok (.getfield 275, 3) := by decide +kernel
theorem dX4_setCrossed_139 : decode cX4_setCrossed 139 = .ok (.lneg, 1) := by decide +kernel
theorem dX4_setCrossed_140 : decode cX4_setCrossed 140 = .ok (.lconst 0, 1) := by decide +kernel
theorem dX4_setCrossed_141 : decode cX4_setCrossed 141 = .ok (.aload_n 3, 1) := by decide +kernel
theorem dX4_setCrossed_142 : decode cX4_setCrossed 142 = .ok (.getfield 281, 3) := by decide +kernel
theorem dX4_setCrossed_145 : decode cX4_setCrossed 145 = .ok (.invokevirtual 207, 3) := by decide +kernel
theorem dX4_setCrossed_148 : decode cX4_setCrossed 148 = .ok (.aload_n 1, 1) := by decide +kernel
theorem dX4_setCrossed_149 : decode cX4_setCrossed 149 = .ok (.lload 4, 2) := by decide +kernel
theorem dX4_setCrossed_151 : decode cX4_setCrossed 151 = .ok (.lload 6, 2) := by decide +kernel
theorem dX4_setCrossed_153 : decode cX4_setCrossed 153 = .ok (.lload 8, 2) := by decide +kernel
theorem dX4_setCrossed_155 : decode cX4_setCrossed 155 = .ok (.invokevirtual 74, 3) := by decide +kernel
theorem dX4_setCrossed_158 : decode cX4_setCrossed 158 = .ok (.aload_n 1, 1) := by decide +kernel
theorem dX4_setCrossed_159 : decode cX4_setCrossed 159 = .ok (.lload 10, 2) := by decide +kernel
theorem dX4_setCrossed_161 : decode cX4_setCrossed 161 = .ok (.aload_n 0, 1) := by decide +kernel
theorem dX4_setCrossed_162 : decode cX4_setCrossed 162 = .ok (.getfield 41, 3) := by decide +kernel
theorem dX4_setCrossed_165 : decode cX4_setCrossed 165 = .ok (.aload_n 0, 1) := by decide +kernel
theorem dX4_setCrossed_166 : decode cX4_setCrossed 166 = .ok (.getfield 47, 3) := by decide +kernel
theorem dX4_setCrossed_169 : decode cX4_setCrossed 169 = .ok (.invokevirtual 124, 3) := by decide +kernel
theorem dX4_setCrossed_172 : decode cX4_setCrossed 172 = .ok (.lload 12, 2) := by decide +kernel
theorem dX4_setCrossed_174 : decode cX4_setCrossed 174 = .ok (.invokevirtual 78, 3) := by decide +kernel
theorem dX4_setCrossed_177 : decode cX4_setCrossed 177 = .ok (.return_, 1) := by decide +kernel
set_option maxRecDepth 20000 in
theorem ggX4_fallApart_X1_clear : GoodIn wsX4_fallApart wsX1_clear := goodIn_r _ [7, 8, 94, 95, 96] (by decide +kernel) (by decide +kernel)
set_option maxRecDepth 20000 in
theorem gX4_fallApart_X1_clear : GoodIn wsX4_fallApart (wsV RX4 228 RX1 yX1_clear wsX1_clear) := goodIn_app (goodIn_of _ (by decide +kernel)) ggX4_fallApart_X1_clear
set_option maxRecDepth 20000 in
theorem ggX4_fallApart_X0_setMinors : GoodIn wsX4_fallApart wsX0_setMinors := goodIn_r _ [13, 14, 15, 16, 17, 18, 19, 20, 21, 22, 23, 24, 12, 25, 26, 27, 28, 29, 100, 101, 102, 103, 104, 105] (by decide +kernel) (by decide +kernel)
set_option maxRecDepth 20000 in
theorem gX4_fallApart_X0_setMinors : GoodIn wsX4_fallApart (wsV RX4 191 RX0 yX0_setMinors wsX0_setMinors) := goodIn_app (goodIn_of _ (by decide +kernel)) ggX4_fallApart_X0_setMinors
set_option maxRecDepth 20000 in
theorem ggX4_fallApart_X0_firstSquare : GoodIn wsX4_fallApart wsX0_firstSquare := goodIn_r _ [33, 21, 15, 16, 100, 101, 102, 103, 104, 105] (by decide +kernel) (by decide +kernel)
set_option maxRecDepth 20000 in
theorem gX4_fallApart_X0_firstSquare : GoodIn wsX4_fallApart (wsV RX4 284 RX0 yX0_firstSquare wsX0_firstSquare) := goodIn_app (goodIn_of _ (by decide +kernel)) ggX4_fallApart_X0_firstSquare
set_option maxRecDepth 20000 in
theorem ggX4_fallApart_X4_rootOf : GoodIn wsX4_fallApart wsX4_rootOf := goodIn_r _ [37] (by decide +kernel) (by decide +kernel)
set_option maxRecDepth 20000 in
theorem gX4_fallApart_X4_rootOf : GoodIn wsX4_fallApart (va_wsS RX4 287 yX4_rootOf wsX4_rootOf) := goodIn_app (goodIn_of _ (by decide +kernel)) ggX4_fallApart_X4_rootOf
set_option maxRecDepth 20000 in
theorem ggX4_fallApart_X3_setTurn : GoodIn wsX4_fallApart wsX3_setTurn := goodIn_r _ [42, 43, 44, 45, 41, 46, 47, 48, 49, 100, 101, 102, 103, 104, 105, 97, 98, 99] (by decide +kernel) (by decide +kernel)
set_option maxRecDepth 20000 in
theorem gX4_fallApart_X3_setTurn : GoodIn wsX4_fallApart (wsV RX4 291 RX3 yX3_setTurn wsX3_setTurn) := goodIn_app (goodIn_of _ (by decide +kernel)) ggX4_fallApart_X3_setTurn
set_option maxRecDepth 20000 in
theorem ggX4_fallApart_X3_setRow : GoodIn wsX4_fallApart wsX3_setRow := goodIn_r _ [53, 54, 49, 48, 47, 43, 44, 45, 41, 46, 55, 56, 57, 58, 59, 60, 61, 62, 63, 64, 65, 66, 67, 36, 68, 100, 101, 102, 103, 104, 105, 97, 98, 99] (by decide +kernel) (by decide +kernel)
set_option maxRecDepth 20000 in
theorem gX4_fallApart_X3_setRow : GoodIn wsX4_fallApart (wsV RX4 298 RX3 yX3_setRow wsX3_setRow) := goodIn_app (goodIn_of _ (by decide +kernel)) ggX4_fallApart_X3_setRow
set_option maxRecDepth 20000 in
theorem ggX4_fallApart_X3_set : GoodIn wsX4_fallApart wsX3_set := goodIn_r _ [46, 47, 48, 49, 97, 98, 99] (by decide +kernel) (by decide +kernel)
set_option maxRecDepth 20000 in
theorem gX4_fallApart_X3_set : GoodIn wsX4_fallApart (wsV RX4 207 RX3 yX3_set wsX3_set) := goodIn_app (goodIn_of _ (by decide +kernel)) ggX4_fallApart_X3_set
set_option maxRecDepth 20000 in
theorem ggX4_fallApart_X1_order : GoodIn wsX4_fallApart wsX1_order := goodIn_r _ [73, 8, 74, 75, 76, 77, 78, 41, 79, 47, 48, 49, 94, 95, 96, 97, 98, 99] (by decide +kernel) (by decide +kernel)
set_option maxRecDepth 20000 in
theorem gX4_fallApart_X1_order : GoodIn wsX4_fallApart (wsV RX4 304 RX1 yX1_order wsX1_order) := goodIn_app (goodIn_of _ (by decide +kernel)) ggX4_fallApart_X1_order
theorem dX4_fallApart_0 : decode cX4_fallApart 0 = .ok (.aload_n 2, 1) := by decide +kernel
theorem dX4_fallApart_1 : decode cX4_fallApart 1 = .ok (.invokevirtual 228, 3) := by decide +kernel
theorem dX4_fallApart_4 : decode cX4_fallApart 4 = .ok (.aload_n 0, 1) := by decide +kernel
theorem dX4_fallApart_5 : decode cX4_fallApart 5 = .ok (.getfield 60, 3) := by decide +kernel
theorem dX4_fallApart_8 : decode cX4_fallApart 8 = .ok (.aload_n 1, 1) := by decide +kernel
theorem dX4_fallApart_9 : decode cX4_fallApart 9 = .ok (.invokevirtual 191, 3) := by decide +kernel
theorem dX4_fallApart_12 : decode cX4_fallApart 12 = .ok (.aload_n 0, 1) := by decide +kernel
theorem dX4_fallApart_13 : decode cX4_fallApart 13 = .ok (.getfield 60, 3) := by decide +kernel
theorem dX4_fallApart_16 : decode cX4_fallApart 16 = .ok (.invokevirtual 284, 3) := by decide +kernel
theorem dX4_fallApart_19 : decode cX4_fallApart 19 = .ok (.lneg, 1) := by decide +kernel
theorem dX4_fallApart_20 : decode cX4_fallApart 20 = .ok (.lstore_n 3, 1) := by decide +kernel
theorem dX4_fallApart_21 : decode cX4_fallApart 21 = .ok (.lload_n 3, 1) := by decide +kernel
theorem dX4_fallApart_22 : decode cX4_fallApart 22 = .ok (.lconst 0, 1) := by decide +kernel
theorem dX4_fallApart_23 : decode cX4_fallApart 23 = .ok (.lcmp, 1) := by decide +kernel
theorem dX4_fallApart_24 : decode cX4_fallApart 24 = .ok (.ifCond .ge 5, 3) := by decide +kernel
theorem dX4_fallApart_27 : decode cX4_fallApart 27 = .ok (.iconst 0, 1) := by decide +kernel
theorem dX4_fallApart_28 : decode cX4_fallApart 28 = .ok (.ireturn, 1) := by decide +kernel
theorem dX4_fallApart_29 : decode cX4_fallApart 29 = .ok (.lload_n 3, 1) := by decide +kernel
theorem dX4_fallApart_30 : decode cX4_fallApart 30 = .ok (.invokestatic 287, 3) := by decide +kernel
theorem dX4_fallApart_33 : decode cX4_fallApart 33 = .ok (.lstore 5, 2) := by decide +kernel
theorem dX4_fallApart_35 : decode cX4_fallApart 35 = .ok (.lload 5, 2) := by decide +kernel
theorem dX4_fallApart_37 : decode cX4_fallApart 37 = .ok (.lload 5, 2) := by decide +kernel
theorem dX4_fallApart_39 : decode cX4_fallApart 39 = .ok (.lmul, 1) := by decide +kernel
theorem dX4_fallApart_40 : decode cX4_fallApart 40 = .ok (.lload_n 3, 1) := by decide +kernel
theorem dX4_fallApart_41 : decode cX4_fallApart 41 = .ok (.lcmp, 1) := by decide +kernel
theorem dX4_fallApart_42 : decode cX4_fallApart 42 = .ok (.ifCond .eq 5, 3) := by decide +kernel
theorem dX4_fallApart_45 : decode cX4_fallApart 45 = .ok (.iconst 4, 1) := by decide +kernel
theorem dX4_fallApart_46 : decode cX4_fallApart 46 = .ok (.ireturn, 1) := by decide +kernel
theorem dX4_fallApart_47 : decode cX4_fallApart 47 = .ok (.aload_n 0, 1) := by decide +kernel
theorem dX4_fallApart_48 : decode cX4_fallApart 48 = .ok (.getfield 47, 3) := by decide +kernel
theorem dX4_fallApart_51 : decode cX4_fallApart 51 = .ok (.aload_n 0, 1) := by decide +kernel
theorem dX4_fallApart_52 : decode cX4_fallApart 52 = .ok (.getfield 60, 3) := by decide +kernel
theorem dX4_fallApart_55 : decode cX4_fallApart 55 = .ok (.lload 5, 2) := by decide +kernel
theorem dX4_fallApart_57 : decode cX4_fallApart 57 = .ok (.invokevirtual 291, 3) := by decide +kernel
theorem dX4_fallApart_60 : decode cX4_fallApart 60 = .ok (.aload_n 2, 1) := by decide +kernel
theorem dX4_fallApart_61 : decode cX4_fallApart 61 = .ok (.getfield 295, 3) := by decide +kernel
theorem dX4_fallApart_64 : decode cX4_fallApart 64 = .ok (.aload_n 1, 1) := by decide +kernel
theorem dX4_fallApart_65 : decode cX4_fallApart 65 = .ok (.aload_n 0, 1) := by decide +kernel
theorem dX4_fallApart_66 : decode cX4_fallApart 66 = .ok (.getfield 47, 3) := by decide +kernel
theorem dX4_fallApart_69 : decode cX4_fallApart 69 = .ok (.invokevirtual 298, 3) := by decide +kernel
theorem dX4_fallApart_72 : decode cX4_fallApart 72 = .ok (.aload_n 0, 1) := by decide +kernel
theorem dX4_fallApart_73 : decode cX4_fallApart 73 = .ok (.getfield 47, 3) := by decide +kernel
theorem dX4_fallApart_76 : decode cX4_fallApart 76 = .ok (.aload_n 0, 1) := by decide +kernel
theorem dX4_fallApart_77 : decode cX4_fallApart 77 = .ok (.getfield 47, 3) := by decide +kernel
theorem dX4_fallApart_80 : decode cX4_fallApart 80 = .ok (.getfield 281, 3) := by decide +kernel
theorem dX4_fallApart_83 : decode cX4_fallApart 83 = .ok (.lneg, 1) := by decide +kernel
theorem dX4_fallApart_84 : decode cX4_fallApart 84 = .ok (.aload_n 0, 1) := by decide +kernel
theorem dX4_fallApart_85 : decode cX4_fallApart 85 = .ok (.getfield 47, 3) := by decide +kernel
theorem dX4_fallApart_88 : decode cX4_fallApart 88 = .ok (.getfield 278, 3) := by decide +kernel
theorem dX4_fallApart_91 : decode cX4_fallApart 91 = .ok (.lneg, 1) := by decide +kernel
theorem dX4_fallApart_92 : decode cX4_fallApart 92 = .ok (.aload_n 0, 1) := by decide +kernel
theorem dX4_fallApart_93 : decode cX4_fallApart 93 = .ok (.getfield 47, 3) := by decide +kernel
theorem dX4_fallApart_96 : decode cX4_fallApart 96 = .ok (.getfield 275, 3) := by decide +kernel
theorem dX4_fallApart_99 : decode cX4_fallApart 99 = .ok (.lneg, 1) := by decide +kernel
theorem dX4_fallApart_100 : decode cX4_fallApart 100 = .ok (.invokevirtual 207, 3) := by decide +kernel
theorem dX4_fallApart_103 : decode cX4_fallApart 103 = .ok (.aload_n 2, 1) := by decide +kernel
theorem dX4_fallApart_104 : decode cX4_fallApart 104 = .ok (.getfield 301, 3) := by decide +kernel
theorem dX4_fallApart_107 : decode cX4_fallApart 107 = .ok (.aload_n 1, 1) := by decide +kernel
theorem dX4_fallApart_108 : decode cX4_fallApart 108 = .ok (.aload_n 0, 1) := by decide +kernel
theorem dX4_fallApart_109 : decode cX4_fallApart 109 = .ok (.getfield 47, 3) := by decide +kernel
theorem dX4_fallApart_112 : decode cX4_fallApart 112 = .ok (.invokevirtual 298, 3) := by decide +kernel
theorem dX4_fallApart_115 : decode cX4_fallApart 115 = .ok (.aload_n 2, 1) := by decide +kernel
theorem dX4_fallApart_116 : decode cX4_fallApart 116 = .ok (.lload 5, 2) := by decide +kernel
theorem dX4_fallApart_118 : decode cX4_fallApart 118 = .ok (.lconst 0, 1) := by decide +kernel
theorem dX4_fallApart_119 : decode cX4_fallApart 119 = .ok (.lcmp, 1) := by decide +kernel
theorem dX4_fallApart_120 : decode cX4_fallApart 120 = .ok (.ifCond .ne 7, 3) := by decide +kernel
theorem dX4_fallApart_123 : decode cX4_fallApart 123 = .ok (.iconst 1, 1) := by decide +kernel
theorem dX4_fallApart_124 : decode cX4_fallApart 124 = .ok (.goto 4, 3) := by decide +kernel
theorem dX4_fallApart_127 : decode cX4_fallApart 127 = .ok (.iconst 2, 1) := by decide +kernel
theorem dX4_fallApart_128 : decode cX4_fallApart 128 = .ok (.invokevirtual 304, 3) := by decide +kernel
theorem dX4_fallApart_131 : decode cX4_fallApart 131 = .ok (.aload_n 2, 1) := by decide +kernel
theorem dX4_fallApart_132 : decode cX4_fallApart 132 = .ok (.getfield 307, 3) := by decide +kernel
theorem dX4_fallApart_135 : decode cX4_fallApart 135 = .ok (.ireturn, 1) := by decide +kernel
theorem dX4_isWithin_0 : decode cX4_isWithin 0 = .ok (.lload_n 0, 1) := by decide +kernel
theorem dX4_isWithin_1 : decode cX4_isWithin 1 = .ok (.lload_n 2, 1) := by decide +kernel
theorem dX4_isWithin_2 : decode cX4_isWithin 2 = .ok (.lneg, 1) := by decide +kernel
theorem dX4_isWithin_3 : decode cX4_isWithin 3 = .ok (.lcmp, 1) := by decide +kernel
theorem dX4_isWithin_4 : decode cX4_isWithin 4 = .ok (.ifCond .lt 13, 3) := by decide +kernel
theorem dX4_isWithin_7 : decode cX4_isWithin 7 = .ok (.lload_n 0, 1) := by decide +kernel
theorem dX4_isWithin_8 : decode cX4_isWithin 8 = .ok (.lload_n 2, 1) := by decide +kernel
theorem dX4_isWithin_9 : decode cX4_isWithin 9 = .ok (.lcmp, 1) := by decide +kernel
theorem dX4_isWithin_10 : decode cX4_isWithin 10 = .ok (.ifCond .gt 7, 3) := by decide +kernel
theorem dX4_isWithin_13 : decode cX4_isWithin 13 = .ok (.iconst 1, 1) := by decide +kernel
theorem dX4_isWithin_14 : decode cX4_isWithin 14 = .ok (.goto 4, 3) := by decide +kernel
theorem dX4_isWithin_17 : decode cX4_isWithin 17 = .ok (.iconst 0, 1) := by decide +kernel
theorem dX4_isWithin_18 : decode cX4_isWithin 18 = .ok (.ireturn, 1) := by decide +kernel
theorem dX4_commonDivisor_0 : decode cX4_commonDivisor 0 = .ok (.lload_n 0, 1) := by decide +kernel
theorem dX4_commonDivisor_1 : decode cX4_commonDivisor 1 = .ok (.lstore 4, 2) := by decide +kernel
theorem dX4_commonDivisor_3 : decode cX4_commonDivisor 3 = .ok (.lload_n 2, 1) := by decide +kernel
theorem dX4_commonDivisor_4 : decode cX4_commonDivisor 4 = .ok (.lstore 6, 2) := by decide +kernel
theorem dX4_commonDivisor_6 : decode cX4_commonDivisor 6 = .ok (.iconst 0, 1) := by decide +kernel
theorem dX4_commonDivisor_7 : decode cX4_commonDivisor 7 = .ok (.istore 8, 2) := by decide +kernel
theorem dX4_commonDivisor_9 : decode cX4_commonDivisor 9 = .ok (.iload 8, 2) := by decide +kernel
theorem dX4_commonDivisor_11 : decode cX4_commonDivisor 11 = .ok (.bipush 100, 2) := by decide +kernel
theorem dX4_commonDivisor_13 : decode cX4_commonDivisor 13 = .ok (.if_icmp .ge 31, 3) := by decide +kernel
theorem dX4_commonDivisor_16 : decode cX4_commonDivisor 16 = .ok (.lload 6, 2) := by decide +kernel
theorem dX4_commonDivisor_18 : decode cX4_commonDivisor 18 = .ok (.lconst 0, 1) := by decide +kernel
theorem dX4_commonDivisor_19 : decode cX4_commonDivisor 19 = .ok (.lcmp, 1) := by decide +kernel
theorem dX4_commonDivisor_20 : decode cX4_commonDivisor 20 = .ok (.ifCond .eq 24, 3) := by decide +kernel
theorem dX4_commonDivisor_23 : decode cX4_commonDivisor 23 = .ok (.lload 4, 2) := by decide +kernel
theorem dX4_commonDivisor_25 : decode cX4_commonDivisor 25 = .ok (.lload 6, 2) := by decide +kernel
theorem dX4_commonDivisor_27 : decode cX4_commonDivisor 27 = .ok (.lrem, 1) := by decide +kernel
theorem dX4_commonDivisor_28 : decode cX4_commonDivisor 28 = .ok (.lstore 9, 2) := by decide +kernel
theorem dX4_commonDivisor_30 : decode cX4_commonDivisor 30 = .ok (.lload 6, 2) := by decide +kernel
theorem dX4_commonDivisor_32 : decode cX4_commonDivisor 32 = .ok (.lstore 4, 2) := by decide +kernel
theorem dX4_commonDivisor_34 : decode cX4_commonDivisor 34 = .ok (.lload 9, 2) := by decide +kernel
theorem dX4_commonDivisor_36 : decode cX4_commonDivisor 36 = .ok (.lstore 6, 2) := by decide +kernel
theorem dX4_commonDivisor_38 : decode cX4_commonDivisor 38 = .ok (.iinc 8 1, 3) := by decide +kernel
theorem dX4_commonDivisor_41 : decode cX4_commonDivisor 41 = .ok (.goto (-32), 3) := by decide +kernel
theorem dX4_commonDivisor_44 : decode cX4_commonDivisor 44 = .ok (.lload 4, 2) := by decide +kernel
theorem dX4_commonDivisor_46 : decode cX4_commonDivisor 46 = .ok (.lreturn, 1) := by decide +kernel
theorem dX4_rootOf_0 : decode cX4_rootOf 0 = .ok (.lconst 0, 1) := by decide +kernel
theorem dX4_rootOf_1 : decode cX4_rootOf 1 = .ok (.lstore_n 2, 1) := by decide +kernel
theorem dX4_rootOf_2 : decode cX4_rootOf 2 = .ok (.bipush 30, 2) := by decide +kernel
theorem dX4_rootOf_4 : decode cX4_rootOf 4 = .ok (.istore 4, 2) := by decide +kernel
theorem dX4_rootOf_6 : decode cX4_rootOf 6 = .ok (.iload 4, 2) := by decide +kernel
theorem dX4_rootOf_8 : decode cX4_rootOf 8 = .ok (.ifCond .lt 30, 3) := by decide +kernel
theorem dX4_rootOf_11 : decode cX4_rootOf 11 = .ok (.lload_n 2, 1) := by decide +kernel
theorem dX4_rootOf_12 : decode cX4_rootOf 12 = .ok (.lconst 1, 1) := by decide +kernel
theorem dX4_rootOf_13 : decode cX4_rootOf 13 = .ok (.iload 4, 2) := by decide +kernel
theorem dX4_rootOf_15 : decode cX4_rootOf 15 = .ok (.lshl, 1) := by decide +kernel
theorem dX4_rootOf_16 : decode cX4_rootOf 16 = .ok (.ladd, 1) := by decide +kernel
theorem dX4_rootOf_17 : decode cX4_rootOf 17 = .ok (.lstore 5, 2) := by decide +kernel
theorem dX4_rootOf_19 : decode cX4_rootOf 19 = .ok (.lload 5, 2) := by decide +kernel
theorem dX4_rootOf_21 : decode cX4_rootOf 21 = .ok (.lload 5, 2) := by decide +kernel
theorem dX4_rootOf_23 : decode cX4_rootOf 23 = .ok (.lmul, 1) := by decide +kernel
theorem dX4_rootOf_24 : decode cX4_rootOf 24 = .ok (.lload_n 0, 1) := by decide +kernel
theorem dX4_rootOf_25 : decode cX4_rootOf 25 = .ok (.lcmp, 1) := by decide +kernel
theorem dX4_rootOf_26 : decode cX4_rootOf 26 = .ok (.ifCond .gt 6, 3) := by decide +kernel
theorem dX4_rootOf_29 : decode cX4_rootOf 29 = .ok (.lload 5, 2) := by decide +kernel
theorem dX4_rootOf_31 : decode cX4_rootOf 31 = .ok (.lstore_n 2, 1) := by decide +kernel
theorem dX4_rootOf_32 : decode cX4_rootOf 32 = .ok (.iinc 4 (-1), 3) := by decide +kernel
theorem dX4_rootOf_35 : decode cX4_rootOf 35 = .ok (.goto (-29), 3) := by decide +kernel
theorem dX4_rootOf_38 : decode cX4_rootOf 38 = .ok (.lload_n 2, 1) := by decide +kernel
theorem dX4_rootOf_39 : decode cX4_rootOf 39 = .ok (.lreturn, 1) := by decide +kernel
