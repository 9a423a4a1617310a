theorem dX5_det_21 : decode cX5_det 21 = .ok (.iconst 1, 1) := by decide +kernel
theorem dX5_det_22 : decode cX5_det 22 = .ok (.laload, 1) := by decide +kernel
theorem dX5_det_23 : decode cX5_det 23 = .ok (.aload_n 0, 1) := by decide +kernel
theorem dX5_det_24 : decode cX5_det 24 = .ok (.getfield 38, 3) := by decide +kernel
theorem dX5_det_27 : decode cX5_det 27 = .ok (.iconst 3, 1) := by decide +kernel
theorem dX5_det_28 : decode cX5_det 28 = .ok (.laload, 1) := by decide +kernel
theorem dX5_det_29 : decode cX5_det 29 = .ok (.lmul, 1) := by decide +kernel
theorem dX5_det_30 : decode cX5_det 30 = .ok (.ladd, 1) := by decide +kernel
theorem dX5_det_31 : decode cX5_det 31 = .ok (.aload_n 0, 1) := by decide +kernel
theorem dX5_det_32 : decode cX5_det 32 = .ok (.getfield 35, 3) := by decide +kernel
theorem dX5_det_35 : decode cX5_det 35 = .ok (.iconst 2, 1) := by decide +kernel
theorem dX5_det_36 : decode cX5_det 36 = .ok (.laload, 1) := by decide +kernel
theorem dX5_det_37 : decode cX5_det 37 = .ok (.aload_n 0, 1) := by decide +kernel
theorem dX5_det_38 : decode cX5_det 38 = .ok (.getfield 38, 3) := by decide +kernel
theorem dX5_det_41 : decode cX5_det 41 = .ok (.bipush 6, 2) := by decide +kernel
theorem dX5_det_43 : decode cX5_det 43 = .ok (.laload, 1) := by decide +kernel
theorem dX5_det_44 : decode cX5_det 44 = .ok (.lmul, 1) := by decide +kernel
theorem dX5_det_45 : decode cX5_det 45 = .ok (.ladd, 1) := by decide +kernel
theorem dX5_det_46 : decode cX5_det 46 = .ok (.ldc2_w 95, 3) := by decide +kernel
theorem dX5_det_49 : decode cX5_det 49 = .ok (.ldiv, 1) := by decide +kernel
theorem dX5_det_50 : decode cX5_det 50 = .ok (.lreturn, 1) := by decide +kernel
set_option maxRecDepth 20000 in
theorem ggX5_detOf_X5_layConic : GoodIn wsX5_detOf wsX5_layConic := goodIn_r _ [5, 6, 7, 8, 9, 4, 10, 11, 12, 22, 23, 24, 25, 26, 27, 28, 29, 30, 31, 32, 33, 34, 35, 36, 37, 38] (by decide +kernel) (by decide +kernel)
set_option maxRecDepth 20000 in
theorem gX5_detOf_X5_layConic : GoodIn wsX5_detOf (wsV RX5 149 RX5 yX5_layConic wsX5_layConic) := goodIn_app (goodIn_of _ (by decide +kernel)) ggX5_detOf_X5_layConic
set_option maxRecDepth 20000 in
theorem ggX5_detOf_X5_det : GoodIn wsX5_detOf wsX5_det := goodIn_r _ [16, 11, 17, 12, 18, 19, 20, 4, 21, 22, 23, 24, 25, 26, 27, 28, 29, 30, 31, 32, 33, 34, 35, 36, 37, 38] (by decide +kernel) (by decide +kernel)
set_option maxRecDepth 20000 in
theorem gX5_detOf_X5_det : GoodIn wsX5_detOf (wsV RX5 153 RX5 yX5_det wsX5_det) := goodIn_app (goodIn_of _ (by decide +kernel)) ggX5_detOf_X5_det
theorem dX5_detOf_0 : decode cX5_detOf 0 = .ok (.aload_n 0, 1) := by decide +kernel
theorem dX5_detOf_1 : decode cX5_detOf 1 = .ok (.iload_n 1, 1) := by decide +kernel
theorem dX5_detOf_2 : decode cX5_detOf 2 = .ok (.invokevirtual 149, 3) := by decide +kernel
theorem dX5_detOf_5 : decode cX5_detOf 5 = .ok (.aload_n 0, 1) := by decide +kernel
theorem dX5_detOf_6 : decode cX5_detOf 6 = .ok (.invokevirtual 153, 3) := by decide +kernel
theorem dX5_detOf_9 : decode cX5_detOf 9 = .ok (.lreturn, 1) := by decide +kernel
set_option maxRecDepth 20000 in
theorem ggX5_discOf_X5_layConic : GoodIn wsX5_discOf wsX5_layConic := goodIn_r _ [6, 7, 8, 9, 10, 5, 11, 1, 12, 13, 14, 15, 16, 17, 18, 19, 20, 21, 22, 23, 24, 25, 26, 27, 28, 29] (by decide +kernel) (by decide +kernel)
set_option maxRecDepth 20000 in
theorem gX5_discOf_X5_layConic : GoodIn wsX5_discOf (wsV RX5 149 RX5 yX5_layConic wsX5_layConic) := goodIn_app (goodIn_of _ (by decide +kernel)) ggX5_discOf_X5_layConic
theorem dX5_discOf_0 : decode cX5_discOf 0 = .ok (.aload_n 0, 1) := by decide +kernel
theorem dX5_discOf_1 : decode cX5_discOf 1 = .ok (.iload_n 1, 1) := by decide +kernel
theorem dX5_discOf_2 : decode cX5_discOf 2 = .ok (.invokevirtual 149, 3) := by decide +kernel
theorem dX5_discOf_5 : decode cX5_discOf 5 = .ok (.aload_n 0, 1) := by decide +kernel
theorem dX5_discOf_6 : decode cX5_discOf 6 = .ok (.getfield 35, 3) := by decide +kernel
theorem dX5_discOf_9 : decode cX5_discOf 9 = .ok (.iconst 1, 1) := by decide +kernel
theorem dX5_discOf_10 : decode cX5_discOf 10 = .ok (.laload, 1) := by decide +kernel
theorem dX5_discOf_11 : decode cX5_discOf 11 = .ok (.aload_n 0, 1) := by decide +kernel
theorem dX5_discOf_12 : decode cX5_discOf 12 = .ok (.getfield 35, 3) := by decide +kernel
theorem dX5_discOf_15 : decode cX5_discOf 15 = .ok (.iconst 1, 1) := by decide +kernel
theorem dX5_discOf_16 : decode cX5_discOf 16 = .ok (.laload, 1) := by decide +kernel
theorem dX5_discOf_17 : decode cX5_discOf 17 = .ok (.lmul, 1) := by decide +kernel
theorem dX5_discOf_18 : decode cX5_discOf 18 = .ok (.aload_n 0, 1) := by decide +kernel
theorem dX5_discOf_19 : decode cX5_discOf 19 = .ok (.getfield 35, 3) := by decide +kernel
theorem dX5_discOf_22 : decode cX5_discOf 22 = .ok (.iconst 0, 1) := by decide +kernel
theorem dX5_discOf_23 : decode cX5_discOf 23 = .ok (.laload, 1) := by decide +kernel
theorem dX5_discOf_24 : decode cX5_discOf 24 = .ok (.aload_n 0, 1) := by decide +kernel
theorem dX5_discOf_25 : decode cX5_discOf 25 = .ok (.getfield 35, 3) := by decide +kernel
theorem dX5_discOf_28 : decode cX5_discOf 28 = .ok (.iconst 4, 1) := by decide +kernel
theorem dX5_discOf_29 : decode cX5_discOf 29 = .ok (.laload, 1) := by decide +kernel
theorem dX5_discOf_30 : decode cX5_discOf 30 = .ok (.lmul, 1) := by decide +kernel
theorem dX5_discOf_31 : decode cX5_discOf 31 = .ok (.lsub, 1) := by decide +kernel
theorem dX5_discOf_32 : decode cX5_discOf 32 = .ok (.lreturn, 1) := by decide +kernel
set_option maxRecDepth 20000 in
theorem ggX5_kind_X5_isOf : GoodIn wsX5_kind wsX5_isOf := goodIn_r _ [8, 9, 10, 11, 7, 12, 40, 41, 42, 43, 44, 45, 46, 47, 48, 49, 50, 51, 52, 53, 54, 55, 56] (by decide +kernel) (by decide +kernel)
set_option maxRecDepth 20000 in
theorem gX5_kind_X5_isOf : GoodIn wsX5_kind (wsV RX5 97 RX5 yX5_isOf wsX5_isOf) := goodIn_app (goodIn_of _ (by decide +kernel)) ggX5_kind_X5_isOf
set_option maxRecDepth 20000 in
theorem ggX5_kind_X5_detOf : GoodIn wsX5_kind wsX5_detOf := goodIn_r _ [16, 17, 18, 19, 7, 20, 2, 21, 22, 23, 24, 25, 26, 27, 28, 29, 30, 31, 32, 33, 34, 35, 40, 41, 42, 43, 44, 45, 46, 47, 48, 49, 50, 51, 52, 53, 54, 55, 56] (by decide +kernel) (by decide +kernel)
set_option maxRecDepth 20000 in
theorem gX5_kind_X5_detOf : GoodIn wsX5_kind (wsV RX5 157 RX5 yX5_detOf wsX5_detOf) := goodIn_app (goodIn_of _ (by decide +kernel)) ggX5_kind_X5_detOf
set_option maxRecDepth 20000 in
theorem ggX5_kind_X5_discOf : GoodIn wsX5_kind wsX5_discOf := goodIn_r _ [39, 25, 17, 18, 19, 7, 20, 2, 21, 22, 23, 24, 26, 40, 41, 42, 43, 44, 45, 46, 47, 48, 49, 50, 51, 52, 53, 54, 55, 56] (by decide +kernel) (by decide +kernel)
set_option maxRecDepth 20000 in
theorem gX5_kind_X5_discOf : GoodIn wsX5_kind (wsV RX5 161 RX5 yX5_discOf wsX5_discOf) := goodIn_app (goodIn_of _ (by decide +kernel)) ggX5_kind_X5_discOf
theorem dX5_kind_0 : decode cX5_kind 0 = .ok (.aload_n 0, 1) := by decide +kernel
theorem dX5_kind_1 : decode cX5_kind 1 = .ok (.iconst 2, 1) := by decide +kernel
theorem dX5_kind_2 : decode cX5_kind 2 = .ok (.iload_n 1, 1) := by decide +kernel
theorem dX5_kind_3 : decode cX5_kind 3 = .ok (.invokevirtual 97, 3) := by decide +kernel
theorem dX5_kind_6 : decode cX5_kind 6 = .ok (.ifCond .ne 6, 3) := by decide +kernel
theorem dX5_kind_9 : decode cX5_kind 9 = .ok (.ldc 101, 2) := by decide +kernel
theorem dX5_kind_11 : decode cX5_kind 11 = .ok (.ireturn, 1) := by decide +kernel
theorem dX5_kind_12 : decode cX5_kind 12 = .ok (.bipush 6, 2) := by decide +kernel
theorem dX5_kind_14 : decode cX5_kind 14 = .ok (.iload_n 1, 1) := by decide +kernel
theorem dX5_kind_15 : decode cX5_kind 15 = .ok (.imul, 1) := by decide +kernel
theorem dX5_kind_16 : decode cX5_kind 16 = .ok (.istore_n 2, 1) := by decide +kernel
theorem dX5_kind_17 : decode cX5_kind 17 = .ok (.aload_n 0, 1) := by decide +kernel
theorem dX5_kind_18 : decode cX5_kind 18 = .ok (.getfield 16, 3) := by decide +kernel
theorem dX5_kind_21 : decode cX5_kind 21 = .ok (.iload_n 2, 1) := by decide +kernel
theorem dX5_kind_22 : decode cX5_kind 22 = .ok (.iaload, 1) := by decide +kernel
theorem dX5_kind_23 : decode cX5_kind 23 = .ok (.aload_n 0, 1) := by decide +kernel
theorem dX5_kind_24 : decode cX5_kind 24 = .ok (.getfield 16, 3) := by decide +kernel
theorem dX5_kind_27 : decode cX5_kind 27 = .ok (.iload_n 2, 1) := by decide +kernel
theorem dX5_kind_28 : decode cX5_kind 28 = .ok (.iconst 2, 1) := by decide +kernel
theorem dX5_kind_29 : decode cX5_kind 29 = .ok (.iadd, 1) := by decide +kernel
theorem dX5_kind_30 : decode cX5_kind 30 = .ok (.iaload, 1) := by decide +kernel
theorem dX5_kind_31 : decode cX5_kind 31 = .ok (.iadd, 1) := by decide +kernel
theorem dX5_kind_32 : decode cX5_kind 32 = .ok (.i2l, 1) := by decide +kernel
theorem dX5_kind_33 : decode cX5_kind 33 = .ok (.lstore_n 3, 1) := by decide +kernel
theorem dX5_kind_34 : decode cX5_kind 34 = .ok (.aload_n 0, 1) := by decide +kernel
theorem dX5_kind_35 : decode cX5_kind 35 = .ok (.iload_n 1, 1) := by decide +kernel
theorem dX5_kind_36 : decode cX5_kind 36 = .ok (.invokevirtual 157, 3) := by decide +kernel
theorem dX5_kind_39 : decode cX5_kind 39 = .ok (.lstore 5, 2) := by decide +kernel
theorem dX5_kind_41 : decode cX5_kind 41 = .ok (.aload_n 0, 1) := by decide +kernel
theorem dX5_kind_42 : decode cX5_kind 42 = .ok (.iload_n 1, 1) := by decide +kernel
theorem dX5_kind_43 : decode cX5_kind 43 = .ok (.invokevirtual 161, 3) := by decide +kernel
theorem dX5_kind_46 : decode cX5_kind 46 = .ok (.lstore 7, 2) := by decide +kernel
theorem dX5_kind_48 : decode cX5_kind 48 = .ok (.lload 5, 2) := by decide +kernel
theorem dX5_kind_50 : decode cX5_kind 50 = .ok (.lconst 0, 1) := by decide +kernel
theorem dX5_kind_51 : decode cX5_kind 51 = .ok (.lcmp, 1) := by decide +kernel
theorem dX5_kind_52 : decode cX5_kind 52 = .ok (.ifCond .eq 57, 3) := by decide +kernel
theorem dX5_kind_55 : decode cX5_kind 55 = .ok (.lload 7, 2) := by decide +kernel
theorem dX5_kind_57 : decode cX5_kind 57 = .ok (.lconst 0, 1) := by decide +kernel
theorem dX5_kind_58 : decode cX5_kind 58 = .ok (.lcmp, 1) := by decide +kernel
theorem dX5_kind_59 : decode cX5_kind 59 = .ok (.ifCond .le 7, 3) := by decide +kernel
theorem dX5_kind_62 : decode cX5_kind 62 = .ok (.iconst 3, 1) := by decide +kernel
theorem dX5_kind_63 : decode cX5_kind 63 = .ok (.goto 45, 3) := by decide +kernel
theorem dX5_kind_66 : decode cX5_kind 66 = .ok (.lload 7, 2) := by decide +kernel
theorem dX5_kind_68 : decode cX5_kind 68 = .ok (.lconst 0, 1) := by decide +kernel
theorem dX5_kind_69 : decode cX5_kind 69 = .ok (.lcmp, 1) := by decide +kernel
theorem dX5_kind_70 : decode cX5_kind 70 = .ok (.ifCond .ne 7, 3) := by decide +kernel
theorem dX5_kind_73 : decode cX5_kind 73 = .ok (.iconst 2, 1) := by decide +kernel
theorem dX5_kind_74 : decode cX5_kind 74 = .ok (.goto 34, 3) := by decide +kernel
theorem dX5_kind_77 : decode cX5_kind 77 = .ok (.lload_n 3, 1) := by decide +kernel
theorem dX5_kind_78 : decode cX5_kind 78 = .ok (.lconst 0, 1) := by decide +kernel
theorem dX5_kind_79 : decode cX5_kind 79 = .ok (.lcmp, 1) := by decide +kernel
theorem dX5_kind_80 : decode cX5_kind 80 = .ok (.ifCond .le 7, 3) := by decide +kernel
theorem dX5_kind_83 : decode cX5_kind 83 = .ok (.iconst 1, 1) := by decide +kernel
theorem dX5_kind_84 : decode cX5_kind 84 = .ok (.goto 4, 3) := by decide +kernel
theorem dX5_kind_87 : decode cX5_kind 87 = .ok (.iconst 0, 1) := by decide +kernel
theorem dX5_kind_88 : decode cX5_kind 88 = .ok (.lload 5, 2) := by decide +kernel
theorem dX5_kind_90 : decode cX5_kind 90 = .ok (.lconst 0, 1) := by decide +kernel
theorem dX5_kind_91 : decode cX5_kind 91 = .ok (.lcmp, 1) := by decide +kernel
theorem dX5_kind_92 : decode cX5_kind 92 = .ok (.ifCond .ge 7, 3) := by decide +kernel
theorem dX5_kind_95 : decode cX5_kind 95 = .ok (.iconst 1, 1) := by decide +kernel
theorem dX5_kind_96 : decode cX5_kind 96 = .ok (.goto 4, 3) := by decide +kernel
theorem dX5_kind_99 : decode cX5_kind 99 = .ok (.iconst 0, 1) := by decide +kernel
theorem dX5_kind_100 : decode cX5_kind 100 = .ok (.if_icmp .ne 7, 3) := by decide +kernel
theorem dX5_kind_103 : decode cX5_kind 103 = .ok (.iconst 0, 1) := by decide +kernel
theorem dX5_kind_104 : decode cX5_kind 104 = .ok (.goto 4, 3) := by decide +kernel
theorem dX5_kind_107 : decode cX5_kind 107 = .ok (.iconst 1, 1) := by decide +kernel
theorem dX5_kind_108 : decode cX5_kind 108 = .ok (.ireturn, 1) := by decide +kernel
theorem dX5_kind_109 : decode cX5_kind 109 = .ok (.lload 7, 2) := by decide +kernel
theorem dX5_kind_111 : decode cX5_kind 111 = .ok (.lconst 0, 1) := by decide +kernel
theorem dX5_kind_112 : decode cX5_kind 112 = .ok (.lcmp, 1) := by decide +kernel
theorem dX5_kind_113 : decode cX5_kind 113 = .ok (.ifCond .eq 17, 3) := by decide +kernel
theorem dX5_kind_116 : decode cX5_kind 116 = .ok (.lload 7, 2) := by decide +kernel
theorem dX5_kind_118 : decode cX5_kind 118 = .ok (.lconst 0, 1) := by decide +kernel
theorem dX5_kind_119 : decode cX5_kind 119 = .ok (.lcmp, 1) := by decide +kernel
theorem dX5_kind_120 : decode cX5_kind 120 = .ok (.ifCond .le 7, 3) := by decide +kernel
theorem dX5_kind_123 : decode cX5_kind 123 = .ok (.iconst 4, 1) := by decide +kernel
theorem dX5_kind_124 : decode cX5_kind 124 = .ok (.goto 5, 3) := by decide +kernel
theorem dX5_kind_127 : decode cX5_kind 127 = .ok (.bipush 7, 2) := by decide +kernel
theorem dX5_kind_129 : decode cX5_kind 129 = .ok (.ireturn, 1) := by decide +kernel
theorem dX5_kind_130 : decode cX5_kind 130 = .ok (.aload_n 0, 1) := by decide +kernel
theorem dX5_kind_131 : decode cX5_kind 131 = .ok (.getfield 16, 3) := by decide +kernel
theorem dX5_kind_134 : decode cX5_kind 134 = .ok (.iload_n 2, 1) := by decide +kernel
theorem dX5_kind_135 : decode cX5_kind 135 = .ok (.iconst 3, 1) := by decide +kernel
theorem dX5_kind_136 : decode cX5_kind 136 = .ok (.iadd, 1) := by decide +kernel
theorem dX5_kind_137 : decode cX5_kind 137 = .ok (.iaload, 1) := by decide +kernel
theorem dX5_kind_138 : decode cX5_kind 138 = .ok (.i2l, 1) := by decide +kernel
theorem dX5_kind_139 : decode cX5_kind 139 = .ok (.lstore 9, 2) := by decide +kernel
theorem dX5_kind_141 : decode cX5_kind 141 = .ok (.aload_n 0, 1) := by decide +kernel
theorem dX5_kind_142 : decode cX5_kind 142 = .ok (.getfield 16, 3) := by decide +kernel
theorem dX5_kind_145 : decode cX5_kind 145 = .ok (.iload_n 2, 1) := by decide +kernel
theorem dX5_kind_146 : decode cX5_kind 146 = .ok (.iconst 4, 1) := by decide +kernel
theorem dX5_kind_147 : decode cX5_kind 147 = .ok (.iadd, 1) := by decide +kernel
theorem dX5_kind_148 : decode cX5_kind 148 = .ok (.iaload, 1) := by decide +kernel
theorem dX5_kind_149 : decode cX5_kind 149 = .ok (.i2l, 1) := by decide +kernel
theorem dX5_kind_150 : decode cX5_kind 150 = .ok (.lstore 11, 2) := by decide +kernel
theorem dX5_kind_152 : decode cX5_kind 152 = .ok (.aload_n 0, 1) := by decide +kernel
theorem dX5_kind_153 : decode cX5_kind 153 = .ok (.getfield 16, 3) := by decide +kernel
theorem dX5_kind_156 : decode cX5_kind 156 = .ok (.iload_n 2, 1) := by decide +kernel
theorem dX5_kind_157 : decode cX5_kind 157 = .ok (.iaload, 1) := by decide +kernel
theorem dX5_kind_158 : decode cX5_kind 158 = .ok (.ifCond .ne 47, 3) := by decide +kernel
theorem dX5_kind_161 : decode cX5_kind 161 = .ok (.aload_n 0, 1) := by decide +kernel
theorem dX5_kind_162 : decode cX5_kind 162 = .ok (.getfield 16, 3) := by decide +kernel
theorem dX5_kind_165 : decode cX5_kind 165 = .ok (.iload_n 2, 1) := by decide +kernel
theorem dX5_kind_166 : decode cX5_kind 166 = .ok (.iconst 1, 1) := by decide +kernel
theorem dX5_kind_167 : decode cX5_kind 167 = .ok (.iadd, 1) := by decide +kernel
theorem dX5_kind_168 : decode cX5_kind 168 = .ok (.iaload, 1) := by decide +kernel
theorem dX5_kind_169 : decode cX5_kind 169 = .ok (.ifCond .ne 36, 3) := by decide +kernel
theorem dX5_kind_172 : decode cX5_kind 172 = .ok (.aload_n 0, 1) := by decide +kernel
theorem dX5_kind_173 : decode cX5_kind 173 = .ok (.getfield 16, 3) := by decide +kernel
theorem dX5_kind_176 : decode cX5_kind 176 = .ok (.iload_n 2, 1) := by decide +kernel
theorem dX5_kind_177 : decode cX5_kind 177 = .ok (.iconst 2, 1) := by decide +kernel
theorem dX5_kind_178 : decode cX5_kind 178 = .ok (.iadd, 1) := by decide +kernel
theorem dX5_kind_179 : decode cX5_kind 179 = .ok (.iaload, 1) := by decide +kernel
theorem dX5_kind_180 : decode cX5_kind 180 = .ok (.ifCond .ne 25, 3) := by decide +kernel
theorem dX5_kind_183 : decode cX5_kind 183 = .ok (.lload 9, 2) := by decide +kernel
theorem dX5_kind_185 : decode cX5_kind 185 = .ok (.lconst 0, 1) := by decide +kernel
theorem dX5_kind_186 : decode cX5_kind 186 = .ok (.lcmp, 1) := by decide +kernel
theorem dX5_kind_187 : decode cX5_kind 187 = .ok (.ifCond .ne 15, 3) := by decide +kernel
theorem dX5_kind_190 : decode cX5_kind 190 = .ok (.lload 11, 2) := by decide +kernel
theorem dX5_kind_192 : decode cX5_kind 192 = .ok (.lconst 0, 1) := by decide +kernel
theorem dX5_kind_193 : decode cX5_kind 193 = .ok (.lcmp, 1) := by decide +kernel
theorem dX5_kind_194 : decode cX5_kind 194 = .ok (.ifCond .ne 8, 3) := by decide +kernel
theorem dX5_kind_197 : decode cX5_kind 197 = .ok (.bipush 10, 2) := by decide +kernel
theorem dX5_kind_199 : decode cX5_kind 199 = .ok (.goto 5, 3) := by decide +kernel
theorem dX5_kind_202 : decode cX5_kind 202 = .ok (.bipush 9, 2) := by decide +kernel
theorem dX5_kind_204 : decode cX5_kind 204 = .ok (.ireturn, 1) := by decide +kernel
theorem dX5_kind_205 : decode cX5_kind 205 = .ok (.lload 9, 2) := by decide +kernel
theorem dX5_kind_207 : decode cX5_kind 207 = .ok (.lload 9, 2) := by decide +kernel
theorem dX5_kind_209 : decode cX5_kind 209 = .ok (.lmul, 1) := by decide +kernel
theorem dX5_kind_210 : decode cX5_kind 210 = .ok (.lload 11, 2) := by decide +kernel
theorem dX5_kind_212 : decode cX5_kind 212 = .ok (.lload 11, 2) := by decide +kernel
theorem dX5_kind_214 : decode cX5_kind 214 = .ok (.lmul, 1) := by decide +kernel
theorem dX5_kind_215 : decode cX5_kind 215 = .ok (.ladd, 1) := by decide +kernel
theorem dX5_kind_216 : decode cX5_kind 216 = .ok (.ldc2_w 164, 3) := by decide +kernel
theorem dX5_kind_219 : decode cX5_kind 219 = .ok (.lload_n 3, 1) := by decide +kernel
theorem dX5_kind_220 : decode cX5_kind 220 = .ok (.lmul, 1) := by decide +kernel
theorem dX5_kind_221 : decode cX5_kind 221 = .ok (.aload_n 0, 1) := by decide +kernel
theorem dX5_kind_222 : decode cX5_kind 222 = .ok (.getfield 16, 3) := by decide +kernel
theorem dX5_kind_225 : decode cX5_kind 225 = .ok (.iload_n 2, 1) := by decide +kernel
theorem dX5_kind_226 : decode cX5_kind 226 = .ok (.iconst 5, 1) := by decide +kernel
theorem dX5_kind_227 : decode cX5_kind 227 = .ok (.iadd, 1) := by decide +kernel
theorem dX5_kind_228 : decode cX5_kind 228 = .ok (.iaload, 1) := by decide +kernel
theorem dX5_kind_229 : decode cX5_kind 229 = .ok (.i2l, 1) := by decide +kernel
theorem dX5_kind_230 : decode cX5_kind 230 = .ok (.lmul, 1) := by decide +kernel
theorem dX5_kind_231 : decode cX5_kind 231 = .ok (.lsub, 1) := by decide +kernel
theorem dX5_kind_232 : decode cX5_kind 232 = .ok (.lstore 13, 2) := by decide +kernel
theorem dX5_kind_234 : decode cX5_kind 234 = .ok (.lload 13, 2) := by decide +kernel
theorem dX5_kind_236 : decode cX5_kind 236 = .ok (.lconst 0, 1) := by decide +kernel
theorem dX5_kind_237 : decode cX5_kind 237 = .ok (.lcmp, 1) := by decide +kernel
theorem dX5_kind_238 : decode cX5_kind 238 = .ok (.ifCond .le 7, 3) := by decide +kernel
theorem dX5_kind_241 : decode cX5_kind 241 = .ok (.iconst 5, 1) := by decide +kernel
theorem dX5_kind_242 : decode cX5_kind 242 = .ok (.goto 17, 3) := by decide +kernel
theorem dX5_kind_245 : decode cX5_kind 245 = .ok (.lload 13, 2) := by decide +kernel
theorem dX5_kind_247 : decode cX5_kind 247 = .ok (.lconst 0, 1) := by decide +kernel
theorem dX5_kind_248 : decode cX5_kind 248 = .ok (.lcmp, 1) := by decide +kernel
theorem dX5_kind_249 : decode cX5_kind 249 = .ok (.ifCond .ne 8, 3) := by decide +kernel
theorem dX5_kind_252 : decode cX5_kind 252 = .ok (.bipush 6, 2) := by decide +kernel
theorem dX5_kind_254 : decode cX5_kind 254 = .ok (.goto 5, 3) := by decide +kernel
theorem dX5_kind_257 : decode cX5_kind 257 = .ok (.bipush 8, 2) := by decide +kernel
theorem dX5_kind_259 : decode cX5_kind 259 = .ok (.ireturn, 1) := by decide +kernel
set_option maxRecDepth 20000 in
theorem ggX5_told_X5_isOf : GoodIn wsX5_told wsX5_isOf := goodIn_r _ [7, 8, 9, 10, 6, 11, 40, 41, 42, 43, 44, 45, 46, 47, 48, 49, 50, 51, 52, 53, 54, 55, 56] (by decide +kernel) (by decide +kernel)
set_option maxRecDepth 20000 in
theorem gX5_told_X5_isOf : GoodIn wsX5_told (wsV RX5 97 RX5 yX5_isOf wsX5_isOf) := goodIn_app (goodIn_of _ (by decide +kernel)) ggX5_told_X5_isOf
set_option maxRecDepth 20000 in
theorem ggX5_told_X5_detOf : GoodIn wsX5_told wsX5_detOf := goodIn_r _ [15, 16, 17, 18, 6, 19, 20, 21, 22, 23, 24, 25, 26, 27, 28, 29, 30, 31, 32, 33, 34, 35, 40, 41, 42, 43, 44, 45, 46, 47, 48, 49, 50, 51, 52, 53, 54, 55, 56] (by decide +kernel) (by decide +kernel)
set_option maxRecDepth 20000 in
theorem gX5_told_X5_detOf : GoodIn wsX5_told (wsV RX5 157 RX5 yX5_detOf wsX5_detOf) := goodIn_app (goodIn_of _ (by decide +kernel)) ggX5_told_X5_detOf
set_option maxRecDepth 20000 in
theorem ggX5_told_X5_discOf : GoodIn wsX5_told wsX5_discOf := goodIn_r _ [39, 25, 16, 17, 18, 6, 19, 20, 21, 22, 23, 24, 26, 40, 41, 42, 43, 44, 45, 46, 47, 48, 49, 50, 51, 52, 53, 54, 55, 56] (by decide +kernel) (by decide +kernel)
set_option maxRecDepth 20000 in
theorem gX5_told_X5_discOf : GoodIn wsX5_told (wsV RX5 161 RX5 yX5_discOf wsX5_discOf) := goodIn_app (goodIn_of _ (by decide +kernel)) ggX5_told_X5_discOf
theorem dX5_told_0 : decode cX5_told 0 = .ok (.aload_n 0, 1) := by decide +kernel
theorem dX5_told_1 : decode cX5_told 1 = .ok (.iconst 2, 1) := by decide +kernel
theorem dX5_told_2 : decode cX5_told 2 = .ok (.iload_n 1, 1) := by decide +kernel
theorem dX5_told_3 : decode cX5_told 3 = .ok (.invokevirtual 97, 3) := by decide +kernel
theorem dX5_told_6 : decode cX5_told 6 = .ok (.ifCond .ne 7, 3) := by decide +kernel
theorem dX5_told_9 : decode cX5_told 9 = .ok (.ldc2_w 166, 3) := by decide +kernel
theorem dX5_told_12 : decode cX5_told 12 = .ok (.lreturn, 1) := by decide +kernel
theorem dX5_told_13 : decode cX5_told 13 = .ok (.iload_n 2, 1) := by decide +kernel
theorem dX5_told_14 : decode cX5_told 14 = .ok (.ifCond .ne 11, 3) := by decide +kernel
theorem dX5_told_17 : decode cX5_told 17 = .ok (.aload_n 0, 1) := by decide +kernel
theorem dX5_told_18 : decode cX5_told 18 = .ok (.iload_n 1, 1) := by decide +kernel
theorem dX5_told_19 : decode cX5_told 19 = .ok (.invokevirtual 157, 3) := by decide +kernel
theorem dX5_told_22 : decode cX5_told 22 = .ok (.goto 19, 3) := by decide +kernel
theorem dX5_told_25 : decode cX5_told 25 = .ok (.iload_n 2, 1) := by decide +kernel
theorem dX5_told_26 : decode cX5_told 26 = .ok (.iconst 1, 1) := by decide +kernel
theorem dX5_told_27 : decode cX5_told 27 = .ok (.if_icmp .ne 11, 3) := by decide +kernel
theorem dX5_told_30 : decode cX5_told 30 = .ok (.aload_n 0, 1) := by decide +kernel
theorem dX5_told_31 : decode cX5_told 31 = .ok (.iload_n 1, 1) := by decide +kernel
theorem dX5_told_32 : decode cX5_told 32 = .ok (.invokevirtual 161, 3) := by decide +kernel
theorem dX5_told_35 : decode cX5_told 35 = .ok (.goto 6, 3) := by decide +kernel
theorem dX5_told_38 : decode cX5_told 38 = .ok (.ldc2_w 168, 3) := by decide +kernel
theorem dX5_told_41 : decode cX5_told 41 = .ok (.lreturn, 1) := by decide +kernel
set_option maxRecDepth 20000 in
theorem ggX5_round_X5_isOf : GoodIn wsX5_round wsX5_isOf := goodIn_r _ [7, 8, 9, 10, 6, 11, 12, 13, 14, 15, 16, 17, 18, 19, 20, 21, 22, 23, 24, 25, 26, 27, 28] (by decide +kernel) (by decide +kernel)
set_option maxRecDepth 20000 in
theorem gX5_round_X5_isOf : GoodIn wsX5_round (wsV RX5 97 RX5 yX5_isOf wsX5_isOf) := goodIn_app (goodIn_of _ (by decide +kernel)) ggX5_round_X5_isOf
theorem dX5_round_0 : decode cX5_round 0 = .ok (.aload_n 0, 1) := by decide +kernel
theorem dX5_round_1 : decode cX5_round 1 = .ok (.iconst 2, 1) := by decide +kernel
theorem dX5_round_2 : decode cX5_round 2 = .ok (.iload_n 1, 1) := by decide +kernel
theorem dX5_round_3 : decode cX5_round 3 = .ok (.invokevirtual 97, 3) := by decide +kernel
theorem dX5_round_6 : decode cX5_round 6 = .ok (.ifCond .ne 6, 3) := by decide +kernel
theorem dX5_round_9 : decode cX5_round 9 = .ok (.ldc 101, 2) := by decide +kernel
theorem dX5_round_11 : decode cX5_round 11 = .ok (.ireturn, 1) := by decide +kernel
theorem dX5_round_12 : decode cX5_round 12 = .ok (.aload_n 0, 1) := by decide +kernel
theorem dX5_round_13 : decode cX5_round 13 = .ok (.getfield 16, 3) := by decide +kernel
theorem dX5_round_16 : decode cX5_round 16 = .ok (.bipush 6, 2) := by decide +kernel
theorem dX5_round_18 : decode cX5_round 18 = .ok (.iload_n 1, 1) := by decide +kernel
theorem dX5_round_19 : decode cX5_round 19 = .ok (.imul, 1) := by decide +kernel
theorem dX5_round_20 : decode cX5_round 20 = .ok (.iaload, 1) := by decide +kernel
theorem dX5_round_21 : decode cX5_round 21 = .ok (.istore_n 2, 1) := by decide +kernel
theorem dX5_round_22 : decode cX5_round 22 = .ok (.aload_n 0, 1) := by decide +kernel
theorem dX5_round_23 : decode cX5_round 23 = .ok (.getfield 16, 3) := by decide +kernel
theorem dX5_round_26 : decode cX5_round 26 = .ok (.bipush 6, 2) := by decide +kernel
theorem dX5_round_28 : decode cX5_round 28 = .ok (.iload_n 1, 1) := by decide +kernel
theorem dX5_round_29 : decode cX5_round 29 = .ok (.imul, 1) := by decide +kernel
theorem dX5_round_30 : decode cX5_round 30 = .ok (.iconst 1, 1) := by decide +kernel
theorem dX5_round_31 : decode cX5_round 31 = .ok (.iadd, 1) := by decide +kernel
theorem dX5_round_32 : decode cX5_round 32 = .ok (.iaload, 1) := by decide +kernel
theorem dX5_round_33 : decode cX5_round 33 = .ok (.istore_n 3, 1) := by decide +kernel
theorem dX5_round_34 : decode cX5_round 34 = .ok (.aload_n 0, 1) := by decide +kernel
theorem dX5_round_35 : decode cX5_round 35 = .ok (.getfield 16, 3) := by decide +kernel
theorem dX5_round_38 : decode cX5_round 38 = .ok (.bipush 6, 2) := by decide +kernel
theorem dX5_round_40 : decode cX5_round 40 = .ok (.iload_n 1, 1) := by decide +kernel
theorem dX5_round_41 : decode cX5_round 41 = .ok (.imul, 1) := by decide +kernel
theorem dX5_round_42 : decode cX5_round 42 = .ok (.iconst 2, 1) := by decide +kernel
theorem dX5_round_43 : decode cX5_round 43 = .ok (.iadd, 1) := by decide +kernel
theorem dX5_round_44 : decode cX5_round 44 = .ok (.iaload, 1) := by decide +kernel
theorem dX5_round_45 : decode cX5_round 45 = .ok (.istore 4, 2) := by decide +kernel
theorem dX5_round_47 : decode cX5_round 47 = .ok (.iload_n 3, 1) := by decide +kernel
theorem dX5_round_48 : decode cX5_round 48 = .ok (.ifCond .ne 15, 3) := by decide +kernel
theorem dX5_round_51 : decode cX5_round 51 = .ok (.iload_n 2, 1) := by decide +kernel
theorem dX5_round_52 : decode cX5_round 52 = .ok (.iload 4, 2) := by decide +kernel
theorem dX5_round_54 : decode cX5_round 54 = .ok (.if_icmp .ne 9, 3) := by decide +kernel
theorem dX5_round_57 : decode cX5_round 57 = .ok (.iload_n 2, 1) := by decide +kernel
theorem dX5_round_58 : decode cX5_round 58 = .ok (.ifCond .eq 5, 3) := by decide +kernel
theorem dX5_round_61 : decode cX5_round 61 = .ok (.iconst 1, 1) := by decide +kernel
theorem dX5_round_62 : decode cX5_round 62 = .ok (.ireturn, 1) := by decide +kernel
theorem dX5_round_63 : decode cX5_round 63 = .ok (.iload_n 2, 1) := by decide +kernel
theorem dX5_round_64 : decode cX5_round 64 = .ok (.iload 4, 2) := by decide +kernel
theorem dX5_round_66 : decode cX5_round 66 = .ok (.iadd, 1) := by decide +kernel
theorem dX5_round_67 : decode cX5_round 67 = .ok (.ifCond .ne 15, 3) := by decide +kernel
theorem dX5_round_70 : decode cX5_round 70 = .ok (.iload_n 2, 1) := by decide +kernel
theorem dX5_round_71 : decode cX5_round 71 = .ok (.ifCond .ne 7, 3) := by decide +kernel
theorem dX5_round_74 : decode cX5_round 74 = .ok (.iload_n 3, 1) := by decide +kernel
theorem dX5_round_75 : decode cX5_round 75 = .ok (.ifCond .eq 7, 3) := by decide +kernel
theorem dX5_round_78 : decode cX5_round 78 = .ok (.iconst 2, 1) := by decide +kernel
theorem dX5_round_79 : decode cX5_round 79 = .ok (.goto 4, 3) := by decide +kernel
theorem dX5_round_82 : decode cX5_round 82 = .ok (.iconst 0, 1) := by decide +kernel
theorem dX5_round_83 : decode cX5_round 83 = .ok (.ireturn, 1) := by decide +kernel
set_option maxRecDepth 20000 in
theorem ggX5_keepTimes_X5_numberOf : GoodIn wsX5_keepTimes wsX5_numberOf := goodIn_r _ [7, 8, 9, 10, 32, 33, 34, 35, 36, 37, 38, 39, 40, 41, 42, 43, 44, 45, 46, 47, 48] (by decide +kernel) (by decide +kernel)
set_option maxRecDepth 20000 in
theorem gX5_keepTimes_X5_numberOf : GoodIn wsX5_keepTimes (wsV RX5 102 RX5 yX5_numberOf wsX5_numberOf) := goodIn_app (goodIn_of _ (by decide +kernel)) ggX5_keepTimes_X5_numberOf
set_option maxRecDepth 20000 in
theorem ggX5_keepTimes_X5_keep : GoodIn wsX5_keepTimes wsX5_keep := goodIn_r _ [14, 1, 15, 16, 17, 18, 19, 8, 9, 10, 20, 21, 6, 22, 23, 24, 25, 26, 27, 28, 29, 30, 31, 32, 33, 34, 35, 36, 37, 38, 39, 40, 41, 42, 43, 44, 45, 46, 47, 48] (by decide +kernel) (by decide +kernel)
set_option maxRecDepth 20000 in
theorem gX5_keepTimes_X5_keep : GoodIn wsX5_keepTimes (wsV RX5 87 RX5 yX5_keep wsX5_keep) := goodIn_app (goodIn_of _ (by decide +kernel)) ggX5_keepTimes_X5_keep
theorem dX5_keepTimes_0 : decode cX5_keepTimes 0 = .ok (.iconst 0, 1) := by decide +kernel
theorem dX5_keepTimes_1 : decode cX5_keepTimes 1 = .ok (.istore 5, 2) := by decide +kernel
theorem dX5_keepTimes_3 : decode cX5_keepTimes 3 = .ok (.iload 5, 2) := by decide +kernel
theorem dX5_keepTimes_5 : decode cX5_keepTimes 5 = .ok (.iconst 3, 1) := by decide +kernel
theorem dX5_keepTimes_6 : decode cX5_keepTimes 6 = .ok (.if_icmp .ge 62, 3) := by decide +kernel
theorem dX5_keepTimes_9 : decode cX5_keepTimes 9 = .ok (.aload_n 0, 1) := by decide +kernel
theorem dX5_keepTimes_10 : decode cX5_keepTimes 10 = .ok (.getfield 22, 3) := by decide +kernel
theorem dX5_keepTimes_13 : decode cX5_keepTimes 13 = .ok (.iload 5, 2) := by decide +kernel
theorem dX5_keepTimes_15 : decode cX5_keepTimes 15 = .ok (.lconst 0, 1) := by decide +kernel
theorem dX5_keepTimes_16 : decode cX5_keepTimes 16 = .ok (.lastore, 1) := by decide +kernel
theorem dX5_keepTimes_17 : decode cX5_keepTimes 17 = .ok (.iconst 0, 1) := by decide +kernel
theorem dX5_keepTimes_18 : decode cX5_keepTimes 18 = .ok (.istore 6, 2) := by decide +kernel
theorem dX5_keepTimes_20 : decode cX5_keepTimes 20 = .ok (.iload 6, 2) := by decide +kernel
theorem dX5_keepTimes_22 : decode cX5_keepTimes 22 = .ok (.iconst 3, 1) := by decide +kernel
theorem dX5_keepTimes_23 : decode cX5_keepTimes 23 = .ok (.if_icmp .ge 39, 3) := by decide +kernel
theorem dX5_keepTimes_26 : decode cX5_keepTimes 26 = .ok (.aload_n 0, 1) := by decide +kernel
theorem dX5_keepTimes_27 : decode cX5_keepTimes 27 = .ok (.getfield 22, 3) := by decide +kernel
theorem dX5_keepTimes_30 : decode cX5_keepTimes 30 = .ok (.iload 5, 2) := by decide +kernel
theorem dX5_keepTimes_32 : decode cX5_keepTimes 32 = .ok (.dup2, 1) := by decide +kernel
theorem dX5_keepTimes_33 : decode cX5_keepTimes 33 = .ok (.laload, 1) := by decide +kernel
theorem dX5_keepTimes_34 : decode cX5_keepTimes 34 = .ok (.aload_n 2, 1) := by decide +kernel
theorem dX5_keepTimes_35 : decode cX5_keepTimes 35 = .ok (.iconst 3, 1) := by decide +kernel
theorem dX5_keepTimes_36 : decode cX5_keepTimes 36 = .ok (.iload 5, 2) := by decide +kernel
theorem dX5_keepTimes_38 : decode cX5_keepTimes 38 = .ok (.imul, 1) := by decide +kernel
theorem dX5_keepTimes_39 : decode cX5_keepTimes 39 = .ok (.iload 6, 2) := by decide +kernel
theorem dX5_keepTimes_41 : decode cX5_keepTimes 41 = .ok (.iadd, 1) := by decide +kernel
theorem dX5_keepTimes_42 : decode cX5_keepTimes 42 = .ok (.laload, 1) := by decide +kernel
theorem dX5_keepTimes_43 : decode cX5_keepTimes 43 = .ok (.aload_n 0, 1) := by decide +kernel
theorem dX5_keepTimes_44 : decode cX5_keepTimes 44 = .ok (.iload_n 3, 1) := by decide +kernel
theorem dX5_keepTimes_45 : decode cX5_keepTimes 45 = .ok (.iload 4, 2) := by decide +kernel
theorem dX5_keepTimes_47 : decode cX5_keepTimes 47 = .ok (.iload 6, 2) := by decide +kernel
theorem dX5_keepTimes_49 : decode cX5_keepTimes 49 = .ok (.invokevirtual 102, 3) := by decide +kernel
theorem dX5_keepTimes_52 : decode cX5_keepTimes 52 = .ok (.i2l, 1) := by decide +kernel
theorem dX5_keepTimes_53 : decode cX5_keepTimes 53 = .ok (.lmul, 1) := by decide +kernel
theorem dX5_keepTimes_54 : decode cX5_keepTimes 54 = .ok (.ladd, 1) := by decide +kernel
theorem dX5_keepTimes_55 : decode cX5_keepTimes 55 = .ok (.lastore, 1) := by decide +kernel
theorem dX5_keepTimes_56 : decode cX5_keepTimes 56 = .ok (.iinc 6 1, 3) := by decide +kernel
theorem dX5_keepTimes_59 : decode cX5_keepTimes 59 = .ok (.goto (-39), 3) := by decide +kernel
theorem dX5_keepTimes_62 : decode cX5_keepTimes 62 = .ok (.iinc 5 1, 3) := by decide +kernel
theorem dX5_keepTimes_65 : decode cX5_keepTimes 65 = .ok (.goto (-62), 3) := by decide +kernel
theorem dX5_keepTimes_68 : decode cX5_keepTimes 68 = .ok (.aload_n 0, 1) := by decide +kernel
theorem dX5_keepTimes_69 : decode cX5_keepTimes 69 = .ok (.iload_n 1, 1) := by decide +kernel
theorem dX5_keepTimes_70 : decode cX5_keepTimes 70 = .ok (.ldc 106, 2) := by decide +kernel
theorem dX5_keepTimes_72 : decode cX5_keepTimes 72 = .ok (.invokevirtual 87, 3) := by decide +kernel
theorem dX5_keepTimes_75 : decode cX5_keepTimes 75 = .ok (.ireturn, 1) := by decide +kernel
set_option maxRecDepth 20000 in
theorem ggX5_polar_X5_isOf : GoodIn wsX5_polar wsX5_isOf := goodIn_r _ [7, 8, 9, 10, 6, 11, 51, 52, 53, 54, 55, 56, 57, 58, 59, 60, 61, 62, 63, 64, 65, 66, 67] (by decide +kernel) (by decide +kernel)
set_option maxRecDepth 20000 in
theorem gX5_polar_X5_isOf : GoodIn wsX5_polar (wsV RX5 97 RX5 yX5_isOf wsX5_isOf) := goodIn_app (goodIn_of _ (by decide +kernel)) ggX5_polar_X5_isOf
set_option maxRecDepth 20000 in
theorem ggX5_polar_X5_layConic : GoodIn wsX5_polar wsX5_layConic := goodIn_r _ [15, 16, 17, 18, 19, 6, 20, 2, 21, 51, 52, 53, 54, 55, 56, 57, 58, 59, 60, 61, 62, 63, 64, 65, 66, 67] (by decide +kernel) (by decide +kernel)
set_option maxRecDepth 20000 in
theorem gX5_polar_X5_layConic : GoodIn wsX5_polar (wsV RX5 149 RX5 yX5_layConic wsX5_layConic) := goodIn_app (goodIn_of _ (by decide +kernel)) ggX5_polar_X5_layConic
set_option maxRecDepth 20000 in
theorem ggX5_polar_X5_keepTimes : GoodIn wsX5_polar wsX5_keepTimes := goodIn_r _ [25, 26, 27, 28, 29, 30, 6, 31, 32, 33, 16, 34, 35, 36, 37, 38, 39, 40, 8, 41, 42, 43, 44, 45, 46, 47, 48, 49, 50, 9, 10, 11, 51, 52, 53, 54, 55, 56, 57, 58, 59, 60, 61, 62, 63, 64, 65, 66, 67] (by decide +kernel) (by decide +kernel)
set_option maxRecDepth 20000 in
theorem gX5_polar_X5_keepTimes : GoodIn wsX5_polar (wsV RX5 170 RX5 yX5_keepTimes wsX5_keepTimes) := goodIn_app (goodIn_of _ (by decide +kernel)) ggX5_polar_X5_keepTimes
theorem dX5_polar_0 : decode cX5_polar 0 = .ok (.aload_n 0, 1) := by decide +kernel
theorem dX5_polar_1 : decode cX5_polar 1 = .ok (.iconst 2, 1) := by decide +kernel
theorem dX5_polar_2 : decode cX5_polar 2 = .ok (.iload_n 1, 1) := by decide +kernel
theorem dX5_polar_3 : decode cX5_polar 3 = .ok (.invokevirtual 97, 3) := by decide +kernel
theorem dX5_polar_6 : decode cX5_polar 6 = .ok (.ifCond .eq 12, 3) := by decide +kernel
theorem dX5_polar_9 : decode cX5_polar 9 = .ok (.aload_n 0, 1) := by decide +kernel
theorem dX5_polar_10 : decode cX5_polar 10 = .ok (.iconst 0, 1) := by decide +kernel
theorem dX5_polar_11 : decode cX5_polar 11 = .ok (.iload_n 2, 1) := by decide +kernel
theorem dX5_polar_12 : decode cX5_polar 12 = .ok (.invokevirtual 97, 3) := by decide +kernel
theorem dX5_polar_15 : decode cX5_polar 15 = .ok (.ifCond .ne 6, 3) := by decide +kernel
theorem dX5_polar_18 : decode cX5_polar 18 = .ok (.ldc 101, 2) := by decide +kernel
theorem dX5_polar_20 : decode cX5_polar 20 = .ok (.ireturn, 1) := by decide +kernel
theorem dX5_polar_21 : decode cX5_polar 21 = .ok (.aload_n 0, 1) := by decide +kernel
theorem dX5_polar_22 : decode cX5_polar 22 = .ok (.iload_n 1, 1) := by decide +kernel
theorem dX5_polar_23 : decode cX5_polar 23 = .ok (.invokevirtual 149, 3) := by decide +kernel
theorem dX5_polar_26 : decode cX5_polar 26 = .ok (.aload_n 0, 1) := by decide +kernel
theorem dX5_polar_27 : decode cX5_polar 27 = .ok (.iconst 1, 1) := by decide +kernel
theorem dX5_polar_28 : decode cX5_polar 28 = .ok (.aload_n 0, 1) := by decide +kernel
theorem dX5_polar_29 : decode cX5_polar 29 = .ok (.getfield 35, 3) := by decide +kernel
theorem dX5_polar_32 : decode cX5_polar 32 = .ok (.iconst 0, 1) := by decide +kernel
theorem dX5_polar_33 : decode cX5_polar 33 = .ok (.iload_n 2, 1) := by decide +kernel
theorem dX5_polar_34 : decode cX5_polar 34 = .ok (.invokevirtual 170, 3) := by decide +kernel
theorem dX5_polar_37 : decode cX5_polar 37 = .ok (.ireturn, 1) := by decide +kernel
set_option maxRecDepth 20000 in
theorem ggX5_pole_X5_isOf : GoodIn wsX5_pole wsX5_isOf := goodIn_r _ [8, 9, 10, 11, 7, 12, 64, 65, 66, 67, 68, 69, 70, 71, 72, 73, 74, 75, 76, 77, 78, 79, 80] (by decide +kernel) (by decide +kernel)
set_option maxRecDepth 20000 in
theorem gX5_pole_X5_isOf : GoodIn wsX5_pole (wsV RX5 97 RX5 yX5_isOf wsX5_isOf) := goodIn_app (goodIn_of _ (by decide +kernel)) ggX5_pole_X5_isOf
set_option maxRecDepth 20000 in
theorem ggX5_pole_X5_detOf : GoodIn wsX5_pole wsX5_detOf := goodIn_r _ [16, 17, 18, 19, 7, 20, 21, 22, 23, 24, 25, 26, 27, 28, 29, 30, 31, 3, 32, 33, 34, 35, 64, 65, 66, 67, 68, 69, 70, 71, 72, 73, 74, 75, 76, 77, 78, 79, 80] (by decide +kernel) (by decide +kernel)
set_option maxRecDepth 20000 in
theorem gX5_pole_X5_detOf : GoodIn wsX5_pole (wsV RX5 157 RX5 yX5_detOf wsX5_detOf) := goodIn_app (goodIn_of _ (by decide +kernel)) ggX5_pole_X5_detOf
set_option maxRecDepth 20000 in
theorem ggX5_pole_X5_keepTimes : GoodIn wsX5_pole wsX5_keepTimes := goodIn_r _ [39, 40, 2, 41, 42, 43, 7, 44, 45, 46, 21, 47, 48, 49, 50, 51, 52, 53, 9, 54, 55, 56, 57, 58, 59, 60, 61, 62, 63, 10, 11, 12, 64, 65, 66, 67, 68, 69, 70, 71, 72, 73, 74, 75, 76, 77, 78, 79, 80] (by decide +kernel) (by decide +kernel)
set_option maxRecDepth 20000 in
theorem gX5_pole_X5_keepTimes : GoodIn wsX5_pole (wsV RX5 170 RX5 yX5_keepTimes wsX5_keepTimes) := goodIn_app (goodIn_of _ (by decide +kernel)) ggX5_pole_X5_keepTimes
theorem dX5_pole_0 : decode cX5_pole 0 = .ok (.aload_n 0, 1) := by decide +kernel
theorem dX5_pole_1 : decode cX5_pole 1 = .ok (.iconst 2, 1) := by decide +kernel
theorem dX5_pole_2 : decode cX5_pole 2 = .ok (.iload_n 1, 1) := by decide +kernel
theorem dX5_pole_3 : decode cX5_pole 3 = .ok (.invokevirtual 97, 3) := by decide +kernel
theorem dX5_pole_6 : decode cX5_pole 6 = .ok (.ifCond .eq 12, 3) := by decide +kernel
theorem dX5_pole_9 : decode cX5_pole 9 = .ok (.aload_n 0, 1) := by decide +kernel
theorem dX5_pole_10 : decode cX5_pole 10 = .ok (.iconst 1, 1) := by decide +kernel
theorem dX5_pole_11 : decode cX5_pole 11 = .ok (.iload_n 2, 1) := by decide +kernel
theorem dX5_pole_12 : decode cX5_pole 12 = .ok (.invokevirtual 97, 3) := by decide +kernel
theorem dX5_pole_15 : decode cX5_pole 15 = .ok (.ifCond .ne 6, 3) := by decide +kernel
theorem dX5_pole_18 : decode cX5_pole 18 = .ok (.ldc 101, 2) := by decide +kernel
