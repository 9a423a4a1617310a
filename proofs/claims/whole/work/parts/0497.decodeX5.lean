theorem dX5_layTwo_17 : decode cX5_layTwo 17 = .ok (.iconst 1, 1) := by decide +kernel
theorem dX5_layTwo_18 : decode cX5_layTwo 18 = .ok (.iadd, 1) := by decide +kernel
theorem dX5_layTwo_19 : decode cX5_layTwo 19 = .ok (.iaload, 1) := by decide +kernel
theorem dX5_layTwo_20 : decode cX5_layTwo 20 = .ok (.i2l, 1) := by decide +kernel
theorem dX5_layTwo_21 : decode cX5_layTwo 21 = .ok (.lstore 4, 2) := by decide +kernel
theorem dX5_layTwo_23 : decode cX5_layTwo 23 = .ok (.aload_n 0, 1) := by decide +kernel
theorem dX5_layTwo_24 : decode cX5_layTwo 24 = .ok (.getfield 13, 3) := by decide +kernel
theorem dX5_layTwo_27 : decode cX5_layTwo 27 = .ok (.iconst 3, 1) := by decide +kernel
theorem dX5_layTwo_28 : decode cX5_layTwo 28 = .ok (.iload_n 1, 1) := by decide +kernel
theorem dX5_layTwo_29 : decode cX5_layTwo 29 = .ok (.imul, 1) := by decide +kernel
theorem dX5_layTwo_30 : decode cX5_layTwo 30 = .ok (.iconst 2, 1) := by decide +kernel
theorem dX5_layTwo_31 : decode cX5_layTwo 31 = .ok (.iadd, 1) := by decide +kernel
theorem dX5_layTwo_32 : decode cX5_layTwo 32 = .ok (.iaload, 1) := by decide +kernel
theorem dX5_layTwo_33 : decode cX5_layTwo 33 = .ok (.i2l, 1) := by decide +kernel
theorem dX5_layTwo_34 : decode cX5_layTwo 34 = .ok (.lstore 6, 2) := by decide +kernel
theorem dX5_layTwo_36 : decode cX5_layTwo 36 = .ok (.aload_n 0, 1) := by decide +kernel
theorem dX5_layTwo_37 : decode cX5_layTwo 37 = .ok (.getfield 47, 3) := by decide +kernel
theorem dX5_layTwo_40 : decode cX5_layTwo 40 = .ok (.iconst 0, 1) := by decide +kernel
theorem dX5_layTwo_41 : decode cX5_layTwo 41 = .ok (.lload 6, 2) := by decide +kernel
theorem dX5_layTwo_43 : decode cX5_layTwo 43 = .ok (.lconst 0, 1) := by decide +kernel
theorem dX5_layTwo_44 : decode cX5_layTwo 44 = .ok (.lcmp, 1) := by decide +kernel
theorem dX5_layTwo_45 : decode cX5_layTwo 45 = .ok (.ifCond .ne 14, 3) := by decide +kernel
theorem dX5_layTwo_48 : decode cX5_layTwo 48 = .ok (.lload 4, 2) := by decide +kernel
theorem dX5_layTwo_50 : decode cX5_layTwo 50 = .ok (.lconst 0, 1) := by decide +kernel
theorem dX5_layTwo_51 : decode cX5_layTwo 51 = .ok (.lcmp, 1) := by decide +kernel
theorem dX5_layTwo_52 : decode cX5_layTwo 52 = .ok (.ifCond .ne 7, 3) := by decide +kernel
theorem dX5_layTwo_55 : decode cX5_layTwo 55 = .ok (.lconst 0, 1) := by decide +kernel
theorem dX5_layTwo_56 : decode cX5_layTwo 56 = .ok (.goto 5, 3) := by decide +kernel
theorem dX5_layTwo_59 : decode cX5_layTwo 59 = .ok (.lload 4, 2) := by decide +kernel
theorem dX5_layTwo_61 : decode cX5_layTwo 61 = .ok (.lastore, 1) := by decide +kernel
theorem dX5_layTwo_62 : decode cX5_layTwo 62 = .ok (.aload_n 0, 1) := by decide +kernel
theorem dX5_layTwo_63 : decode cX5_layTwo 63 = .ok (.getfield 47, 3) := by decide +kernel
theorem dX5_layTwo_66 : decode cX5_layTwo 66 = .ok (.iconst 1, 1) := by decide +kernel
theorem dX5_layTwo_67 : decode cX5_layTwo 67 = .ok (.lload 6, 2) := by decide +kernel
theorem dX5_layTwo_69 : decode cX5_layTwo 69 = .ok (.lconst 0, 1) := by decide +kernel
theorem dX5_layTwo_70 : decode cX5_layTwo 70 = .ok (.lcmp, 1) := by decide +kernel
theorem dX5_layTwo_71 : decode cX5_layTwo 71 = .ok (.ifCond .ne 14, 3) := by decide +kernel
theorem dX5_layTwo_74 : decode cX5_layTwo 74 = .ok (.lload 4, 2) := by decide +kernel
theorem dX5_layTwo_76 : decode cX5_layTwo 76 = .ok (.lconst 0, 1) := by decide +kernel
theorem dX5_layTwo_77 : decode cX5_layTwo 77 = .ok (.lcmp, 1) := by decide +kernel
theorem dX5_layTwo_78 : decode cX5_layTwo 78 = .ok (.ifCond .ne 7, 3) := by decide +kernel
theorem dX5_layTwo_81 : decode cX5_layTwo 81 = .ok (.lconst 1, 1) := by decide +kernel
theorem dX5_layTwo_82 : decode cX5_layTwo 82 = .ok (.goto 5, 3) := by decide +kernel
theorem dX5_layTwo_85 : decode cX5_layTwo 85 = .ok (.lload_n 2, 1) := by decide +kernel
theorem dX5_layTwo_86 : decode cX5_layTwo 86 = .ok (.lneg, 1) := by decide +kernel
theorem dX5_layTwo_87 : decode cX5_layTwo 87 = .ok (.lastore, 1) := by decide +kernel
theorem dX5_layTwo_88 : decode cX5_layTwo 88 = .ok (.aload_n 0, 1) := by decide +kernel
theorem dX5_layTwo_89 : decode cX5_layTwo 89 = .ok (.getfield 47, 3) := by decide +kernel
theorem dX5_layTwo_92 : decode cX5_layTwo 92 = .ok (.iconst 2, 1) := by decide +kernel
theorem dX5_layTwo_93 : decode cX5_layTwo 93 = .ok (.lconst 0, 1) := by decide +kernel
theorem dX5_layTwo_94 : decode cX5_layTwo 94 = .ok (.lastore, 1) := by decide +kernel
theorem dX5_layTwo_95 : decode cX5_layTwo 95 = .ok (.lload_n 2, 1) := by decide +kernel
theorem dX5_layTwo_96 : decode cX5_layTwo 96 = .ok (.lconst 0, 1) := by decide +kernel
theorem dX5_layTwo_97 : decode cX5_layTwo 97 = .ok (.lcmp, 1) := by decide +kernel
theorem dX5_layTwo_98 : decode cX5_layTwo 98 = .ok (.ifCond .ne 24, 3) := by decide +kernel
theorem dX5_layTwo_101 : decode cX5_layTwo 101 = .ok (.lload 4, 2) := by decide +kernel
theorem dX5_layTwo_103 : decode cX5_layTwo 103 = .ok (.lconst 0, 1) := by decide +kernel
theorem dX5_layTwo_104 : decode cX5_layTwo 104 = .ok (.lcmp, 1) := by decide +kernel
theorem dX5_layTwo_105 : decode cX5_layTwo 105 = .ok (.ifCond .ne 17, 3) := by decide +kernel
theorem dX5_layTwo_108 : decode cX5_layTwo 108 = .ok (.aload_n 0, 1) := by decide +kernel
theorem dX5_layTwo_109 : decode cX5_layTwo 109 = .ok (.getfield 47, 3) := by decide +kernel
theorem dX5_layTwo_112 : decode cX5_layTwo 112 = .ok (.iconst 0, 1) := by decide +kernel
theorem dX5_layTwo_113 : decode cX5_layTwo 113 = .ok (.lconst 1, 1) := by decide +kernel
theorem dX5_layTwo_114 : decode cX5_layTwo 114 = .ok (.lastore, 1) := by decide +kernel
theorem dX5_layTwo_115 : decode cX5_layTwo 115 = .ok (.aload_n 0, 1) := by decide +kernel
theorem dX5_layTwo_116 : decode cX5_layTwo 116 = .ok (.getfield 47, 3) := by decide +kernel
theorem dX5_layTwo_119 : decode cX5_layTwo 119 = .ok (.iconst 1, 1) := by decide +kernel
theorem dX5_layTwo_120 : decode cX5_layTwo 120 = .ok (.lconst 0, 1) := by decide +kernel
theorem dX5_layTwo_121 : decode cX5_layTwo 121 = .ok (.lastore, 1) := by decide +kernel
theorem dX5_layTwo_122 : decode cX5_layTwo 122 = .ok (.aload_n 0, 1) := by decide +kernel
theorem dX5_layTwo_123 : decode cX5_layTwo 123 = .ok (.getfield 50, 3) := by decide +kernel
theorem dX5_layTwo_126 : decode cX5_layTwo 126 = .ok (.iconst 0, 1) := by decide +kernel
theorem dX5_layTwo_127 : decode cX5_layTwo 127 = .ok (.lload_n 2, 1) := by decide +kernel
theorem dX5_layTwo_128 : decode cX5_layTwo 128 = .ok (.lconst 0, 1) := by decide +kernel
theorem dX5_layTwo_129 : decode cX5_layTwo 129 = .ok (.lcmp, 1) := by decide +kernel
theorem dX5_layTwo_130 : decode cX5_layTwo 130 = .ok (.ifCond .ne 7, 3) := by decide +kernel
theorem dX5_layTwo_133 : decode cX5_layTwo 133 = .ok (.lconst 0, 1) := by decide +kernel
theorem dX5_layTwo_134 : decode cX5_layTwo 134 = .ok (.goto 5, 3) := by decide +kernel
theorem dX5_layTwo_137 : decode cX5_layTwo 137 = .ok (.lload 6, 2) := by decide +kernel
theorem dX5_layTwo_139 : decode cX5_layTwo 139 = .ok (.lastore, 1) := by decide +kernel
theorem dX5_layTwo_140 : decode cX5_layTwo 140 = .ok (.aload_n 0, 1) := by decide +kernel
theorem dX5_layTwo_141 : decode cX5_layTwo 141 = .ok (.getfield 50, 3) := by decide +kernel
theorem dX5_layTwo_144 : decode cX5_layTwo 144 = .ok (.iconst 1, 1) := by decide +kernel
theorem dX5_layTwo_145 : decode cX5_layTwo 145 = .ok (.lload_n 2, 1) := by decide +kernel
theorem dX5_layTwo_146 : decode cX5_layTwo 146 = .ok (.lconst 0, 1) := by decide +kernel
theorem dX5_layTwo_147 : decode cX5_layTwo 147 = .ok (.lcmp, 1) := by decide +kernel
theorem dX5_layTwo_148 : decode cX5_layTwo 148 = .ok (.ifCond .ne 8, 3) := by decide +kernel
theorem dX5_layTwo_151 : decode cX5_layTwo 151 = .ok (.lload 6, 2) := by decide +kernel
theorem dX5_layTwo_153 : decode cX5_layTwo 153 = .ok (.goto 4, 3) := by decide +kernel
theorem dX5_layTwo_156 : decode cX5_layTwo 156 = .ok (.lconst 0, 1) := by decide +kernel
theorem dX5_layTwo_157 : decode cX5_layTwo 157 = .ok (.lastore, 1) := by decide +kernel
theorem dX5_layTwo_158 : decode cX5_layTwo 158 = .ok (.aload_n 0, 1) := by decide +kernel
theorem dX5_layTwo_159 : decode cX5_layTwo 159 = .ok (.getfield 50, 3) := by decide +kernel
theorem dX5_layTwo_162 : decode cX5_layTwo 162 = .ok (.iconst 2, 1) := by decide +kernel
theorem dX5_layTwo_163 : decode cX5_layTwo 163 = .ok (.lload_n 2, 1) := by decide +kernel
theorem dX5_layTwo_164 : decode cX5_layTwo 164 = .ok (.lconst 0, 1) := by decide +kernel
theorem dX5_layTwo_165 : decode cX5_layTwo 165 = .ok (.lcmp, 1) := by decide +kernel
theorem dX5_layTwo_166 : decode cX5_layTwo 166 = .ok (.ifCond .ne 9, 3) := by decide +kernel
theorem dX5_layTwo_169 : decode cX5_layTwo 169 = .ok (.lload 4, 2) := by decide +kernel
theorem dX5_layTwo_171 : decode cX5_layTwo 171 = .ok (.lneg, 1) := by decide +kernel
theorem dX5_layTwo_172 : decode cX5_layTwo 172 = .ok (.goto 5, 3) := by decide +kernel
theorem dX5_layTwo_175 : decode cX5_layTwo 175 = .ok (.lload_n 2, 1) := by decide +kernel
theorem dX5_layTwo_176 : decode cX5_layTwo 176 = .ok (.lneg, 1) := by decide +kernel
theorem dX5_layTwo_177 : decode cX5_layTwo 177 = .ok (.lastore, 1) := by decide +kernel
theorem dX5_layTwo_178 : decode cX5_layTwo 178 = .ok (.lload_n 2, 1) := by decide +kernel
theorem dX5_layTwo_179 : decode cX5_layTwo 179 = .ok (.lconst 0, 1) := by decide +kernel
theorem dX5_layTwo_180 : decode cX5_layTwo 180 = .ok (.lcmp, 1) := by decide +kernel
theorem dX5_layTwo_181 : decode cX5_layTwo 181 = .ok (.ifCond .ne 31, 3) := by decide +kernel
theorem dX5_layTwo_184 : decode cX5_layTwo 184 = .ok (.lload 4, 2) := by decide +kernel
theorem dX5_layTwo_186 : decode cX5_layTwo 186 = .ok (.lconst 0, 1) := by decide +kernel
theorem dX5_layTwo_187 : decode cX5_layTwo 187 = .ok (.lcmp, 1) := by decide +kernel
theorem dX5_layTwo_188 : decode cX5_layTwo 188 = .ok (.ifCond .ne 24, 3) := by decide +kernel
theorem dX5_layTwo_191 : decode cX5_layTwo 191 = .ok (.aload_n 0, 1) := by decide +kernel
theorem dX5_layTwo_192 : decode cX5_layTwo 192 = .ok (.getfield 50, 3) := by decide +kernel
theorem dX5_layTwo_195 : decode cX5_layTwo 195 = .ok (.iconst 0, 1) := by decide +kernel
theorem dX5_layTwo_196 : decode cX5_layTwo 196 = .ok (.lconst 0, 1) := by decide +kernel
theorem dX5_layTwo_197 : decode cX5_layTwo 197 = .ok (.lastore, 1) := by decide +kernel
theorem dX5_layTwo_198 : decode cX5_layTwo 198 = .ok (.aload_n 0, 1) := by decide +kernel
theorem dX5_layTwo_199 : decode cX5_layTwo 199 = .ok (.getfield 50, 3) := by decide +kernel
theorem dX5_layTwo_202 : decode cX5_layTwo 202 = .ok (.iconst 1, 1) := by decide +kernel
theorem dX5_layTwo_203 : decode cX5_layTwo 203 = .ok (.lconst 1, 1) := by decide +kernel
theorem dX5_layTwo_204 : decode cX5_layTwo 204 = .ok (.lastore, 1) := by decide +kernel
theorem dX5_layTwo_205 : decode cX5_layTwo 205 = .ok (.aload_n 0, 1) := by decide +kernel
theorem dX5_layTwo_206 : decode cX5_layTwo 206 = .ok (.getfield 50, 3) := by decide +kernel
theorem dX5_layTwo_209 : decode cX5_layTwo 209 = .ok (.iconst 2, 1) := by decide +kernel
theorem dX5_layTwo_210 : decode cX5_layTwo 210 = .ok (.lconst 0, 1) := by decide +kernel
theorem dX5_layTwo_211 : decode cX5_layTwo 211 = .ok (.lastore, 1) := by decide +kernel
theorem dX5_layTwo_212 : decode cX5_layTwo 212 = .ok (.aload_n 0, 1) := by decide +kernel
theorem dX5_layTwo_213 : decode cX5_layTwo 213 = .ok (.getfield 47, 3) := by decide +kernel
theorem dX5_layTwo_216 : decode cX5_layTwo 216 = .ok (.iconst 3, 1) := by decide +kernel
theorem dX5_layTwo_217 : decode cX5_layTwo 217 = .ok (.invokestatic 68, 3) := by decide +kernel
theorem dX5_layTwo_220 : decode cX5_layTwo 220 = .ok (.ifCond .eq 18, 3) := by decide +kernel
theorem dX5_layTwo_223 : decode cX5_layTwo 223 = .ok (.aload_n 0, 1) := by decide +kernel
theorem dX5_layTwo_224 : decode cX5_layTwo 224 = .ok (.getfield 50, 3) := by decide +kernel
theorem dX5_layTwo_227 : decode cX5_layTwo 227 = .ok (.iconst 3, 1) := by decide +kernel
theorem dX5_layTwo_228 : decode cX5_layTwo 228 = .ok (.invokestatic 68, 3) := by decide +kernel
theorem dX5_layTwo_231 : decode cX5_layTwo 231 = .ok (.ifCond .eq 7, 3) := by decide +kernel
theorem dX5_layTwo_234 : decode cX5_layTwo 234 = .ok (.iconst 1, 1) := by decide +kernel
theorem dX5_layTwo_235 : decode cX5_layTwo 235 = .ok (.goto 4, 3) := by decide +kernel
theorem dX5_layTwo_238 : decode cX5_layTwo 238 = .ok (.iconst 0, 1) := by decide +kernel
theorem dX5_layTwo_239 : decode cX5_layTwo 239 = .ok (.istore 8, 2) := by decide +kernel
theorem dX5_layTwo_241 : decode cX5_layTwo 241 = .ok (.return_, 1) := by decide +kernel
theorem dX5_rootOf_0 : decode cX5_rootOf 0 = .ok (.lconst 0, 1) := by decide +kernel
theorem dX5_rootOf_1 : decode cX5_rootOf 1 = .ok (.lstore_n 2, 1) := by decide +kernel
theorem dX5_rootOf_2 : decode cX5_rootOf 2 = .ok (.ldc2_w 186, 3) := by decide +kernel
theorem dX5_rootOf_5 : decode cX5_rootOf 5 = .ok (.lstore 4, 2) := by decide +kernel
theorem dX5_rootOf_7 : decode cX5_rootOf 7 = .ok (.lload_n 2, 1) := by decide +kernel
theorem dX5_rootOf_8 : decode cX5_rootOf 8 = .ok (.lload 4, 2) := by decide +kernel
theorem dX5_rootOf_10 : decode cX5_rootOf 10 = .ok (.lcmp, 1) := by decide +kernel
theorem dX5_rootOf_11 : decode cX5_rootOf 11 = .ok (.ifCond .ge 40, 3) := by decide +kernel
theorem dX5_rootOf_14 : decode cX5_rootOf 14 = .ok (.lload_n 2, 1) := by decide +kernel
theorem dX5_rootOf_15 : decode cX5_rootOf 15 = .ok (.lload 4, 2) := by decide +kernel
theorem dX5_rootOf_17 : decode cX5_rootOf 17 = .ok (.ladd, 1) := by decide +kernel
theorem dX5_rootOf_18 : decode cX5_rootOf 18 = .ok (.lconst 1, 1) := by decide +kernel
theorem dX5_rootOf_19 : decode cX5_rootOf 19 = .ok (.ladd, 1) := by decide +kernel
theorem dX5_rootOf_20 : decode cX5_rootOf 20 = .ok (.ldc2_w 95, 3) := by decide +kernel
theorem dX5_rootOf_23 : decode cX5_rootOf 23 = .ok (.ldiv, 1) := by decide +kernel
theorem dX5_rootOf_24 : decode cX5_rootOf 24 = .ok (.lstore 6, 2) := by decide +kernel
theorem dX5_rootOf_26 : decode cX5_rootOf 26 = .ok (.lload 6, 2) := by decide +kernel
theorem dX5_rootOf_28 : decode cX5_rootOf 28 = .ok (.lload_n 0, 1) := by decide +kernel
theorem dX5_rootOf_29 : decode cX5_rootOf 29 = .ok (.lload 6, 2) := by decide +kernel
theorem dX5_rootOf_31 : decode cX5_rootOf 31 = .ok (.ldiv, 1) := by decide +kernel
theorem dX5_rootOf_32 : decode cX5_rootOf 32 = .ok (.lcmp, 1) := by decide +kernel
theorem dX5_rootOf_33 : decode cX5_rootOf 33 = .ok (.ifCond .gt 9, 3) := by decide +kernel
theorem dX5_rootOf_36 : decode cX5_rootOf 36 = .ok (.lload 6, 2) := by decide +kernel
theorem dX5_rootOf_38 : decode cX5_rootOf 38 = .ok (.lstore_n 2, 1) := by decide +kernel
theorem dX5_rootOf_39 : decode cX5_rootOf 39 = .ok (.goto 9, 3) := by decide +kernel
theorem dX5_rootOf_42 : decode cX5_rootOf 42 = .ok (.lload 6, 2) := by decide +kernel
theorem dX5_rootOf_44 : decode cX5_rootOf 44 = .ok (.lconst 1, 1) := by decide +kernel
theorem dX5_rootOf_45 : decode cX5_rootOf 45 = .ok (.lsub, 1) := by decide +kernel
theorem dX5_rootOf_46 : decode cX5_rootOf 46 = .ok (.lstore 4, 2) := by decide +kernel
theorem dX5_rootOf_48 : decode cX5_rootOf 48 = .ok (.goto (-41), 3) := by decide +kernel
theorem dX5_rootOf_51 : decode cX5_rootOf 51 = .ok (.lload_n 2, 1) := by decide +kernel
theorem dX5_rootOf_52 : decode cX5_rootOf 52 = .ok (.lreturn, 1) := by decide +kernel
set_option maxRecDepth 20000 in
theorem ggX5_putCrossing_X5_common : GoodIn wsX5_putCrossing wsX5_common := goodIn_r _ [8] (by decide +kernel) (by decide +kernel)
set_option maxRecDepth 20000 in
theorem gX5_putCrossing_X5_common : GoodIn wsX5_putCrossing (va_wsS RX5 60 yX5_common wsX5_common) := goodIn_app (goodIn_of _ (by decide +kernel)) ggX5_putCrossing_X5_common
set_option maxRecDepth 20000 in
theorem ggX5_putCrossing_X5_norm : GoodIn wsX5_putCrossing wsX5_norm := goodIn_r _ [11, 5, 6, 7, 8] (by decide +kernel) (by decide +kernel)
set_option maxRecDepth 20000 in
theorem gX5_putCrossing_X5_norm : GoodIn wsX5_putCrossing (va_wsS RX5 68 yX5_norm wsX5_norm) := goodIn_app (goodIn_of _ (by decide +kernel)) ggX5_putCrossing_X5_norm
theorem dX5_putCrossing_0 : decode cX5_putCrossing 0 = .ok (.lload_n 2, 1) := by decide +kernel
theorem dX5_putCrossing_1 : decode cX5_putCrossing 1 = .ok (.lload 4, 2) := by decide +kernel
theorem dX5_putCrossing_3 : decode cX5_putCrossing 3 = .ok (.invokestatic 60, 3) := by decide +kernel
theorem dX5_putCrossing_6 : decode cX5_putCrossing 6 = .ok (.lstore 6, 2) := by decide +kernel
theorem dX5_putCrossing_8 : decode cX5_putCrossing 8 = .ok (.iconst 0, 1) := by decide +kernel
theorem dX5_putCrossing_9 : decode cX5_putCrossing 9 = .ok (.istore 8, 2) := by decide +kernel
theorem dX5_putCrossing_11 : decode cX5_putCrossing 11 = .ok (.iload 8, 2) := by decide +kernel
theorem dX5_putCrossing_13 : decode cX5_putCrossing 13 = .ok (.iconst 3, 1) := by decide +kernel
theorem dX5_putCrossing_14 : decode cX5_putCrossing 14 = .ok (.if_icmp .ge 42, 3) := by decide +kernel
theorem dX5_putCrossing_17 : decode cX5_putCrossing 17 = .ok (.aload_n 0, 1) := by decide +kernel
theorem dX5_putCrossing_18 : decode cX5_putCrossing 18 = .ok (.getfield 53, 3) := by decide +kernel
theorem dX5_putCrossing_21 : decode cX5_putCrossing 21 = .ok (.iload 8, 2) := by decide +kernel
theorem dX5_putCrossing_23 : decode cX5_putCrossing 23 = .ok (.lload_n 2, 1) := by decide +kernel
theorem dX5_putCrossing_24 : decode cX5_putCrossing 24 = .ok (.lload 6, 2) := by decide +kernel
theorem dX5_putCrossing_26 : decode cX5_putCrossing 26 = .ok (.ldiv, 1) := by decide +kernel
theorem dX5_putCrossing_27 : decode cX5_putCrossing 27 = .ok (.aload_n 0, 1) := by decide +kernel
theorem dX5_putCrossing_28 : decode cX5_putCrossing 28 = .ok (.getfield 47, 3) := by decide +kernel
theorem dX5_putCrossing_31 : decode cX5_putCrossing 31 = .ok (.iload 8, 2) := by decide +kernel
theorem dX5_putCrossing_33 : decode cX5_putCrossing 33 = .ok (.laload, 1) := by decide +kernel
theorem dX5_putCrossing_34 : decode cX5_putCrossing 34 = .ok (.lmul, 1) := by decide +kernel
theorem dX5_putCrossing_35 : decode cX5_putCrossing 35 = .ok (.lload 4, 2) := by decide +kernel
theorem dX5_putCrossing_37 : decode cX5_putCrossing 37 = .ok (.lload 6, 2) := by decide +kernel
theorem dX5_putCrossing_39 : decode cX5_putCrossing 39 = .ok (.ldiv, 1) := by decide +kernel
theorem dX5_putCrossing_40 : decode cX5_putCrossing 40 = .ok (.aload_n 0, 1) := by decide +kernel
theorem dX5_putCrossing_41 : decode cX5_putCrossing 41 = .ok (.getfield 50, 3) := by decide +kernel
theorem dX5_putCrossing_44 : decode cX5_putCrossing 44 = .ok (.iload 8, 2) := by decide +kernel
theorem dX5_putCrossing_46 : decode cX5_putCrossing 46 = .ok (.laload, 1) := by decide +kernel
theorem dX5_putCrossing_47 : decode cX5_putCrossing 47 = .ok (.lmul, 1) := by decide +kernel
theorem dX5_putCrossing_48 : decode cX5_putCrossing 48 = .ok (.ladd, 1) := by decide +kernel
theorem dX5_putCrossing_49 : decode cX5_putCrossing 49 = .ok (.lastore, 1) := by decide +kernel
theorem dX5_putCrossing_50 : decode cX5_putCrossing 50 = .ok (.iinc 8 1, 3) := by decide +kernel
theorem dX5_putCrossing_53 : decode cX5_putCrossing 53 = .ok (.goto (-42), 3) := by decide +kernel
theorem dX5_putCrossing_56 : decode cX5_putCrossing 56 = .ok (.aload_n 0, 1) := by decide +kernel
theorem dX5_putCrossing_57 : decode cX5_putCrossing 57 = .ok (.getfield 53, 3) := by decide +kernel
theorem dX5_putCrossing_60 : decode cX5_putCrossing 60 = .ok (.iconst 3, 1) := by decide +kernel
theorem dX5_putCrossing_61 : decode cX5_putCrossing 61 = .ok (.invokestatic 68, 3) := by decide +kernel
theorem dX5_putCrossing_64 : decode cX5_putCrossing 64 = .ok (.istore 8, 2) := by decide +kernel
theorem dX5_putCrossing_66 : decode cX5_putCrossing 66 = .ok (.iconst 0, 1) := by decide +kernel
theorem dX5_putCrossing_67 : decode cX5_putCrossing 67 = .ok (.istore 9, 2) := by decide +kernel
theorem dX5_putCrossing_69 : decode cX5_putCrossing 69 = .ok (.iload 9, 2) := by decide +kernel
theorem dX5_putCrossing_71 : decode cX5_putCrossing 71 = .ok (.iconst 3, 1) := by decide +kernel
theorem dX5_putCrossing_72 : decode cX5_putCrossing 72 = .ok (.if_icmp .ge 27, 3) := by decide +kernel
theorem dX5_putCrossing_75 : decode cX5_putCrossing 75 = .ok (.aload_n 0, 1) := by decide +kernel
theorem dX5_putCrossing_76 : decode cX5_putCrossing 76 = .ok (.getfield 41, 3) := by decide +kernel
theorem dX5_putCrossing_79 : decode cX5_putCrossing 79 = .ok (.iconst 3, 1) := by decide +kernel
theorem dX5_putCrossing_80 : decode cX5_putCrossing 80 = .ok (.iload_n 1, 1) := by decide +kernel
theorem dX5_putCrossing_81 : decode cX5_putCrossing 81 = .ok (.imul, 1) := by decide +kernel
theorem dX5_putCrossing_82 : decode cX5_putCrossing 82 = .ok (.iload 9, 2) := by decide +kernel
theorem dX5_putCrossing_84 : decode cX5_putCrossing 84 = .ok (.iadd, 1) := by decide +kernel
theorem dX5_putCrossing_85 : decode cX5_putCrossing 85 = .ok (.aload_n 0, 1) := by decide +kernel
theorem dX5_putCrossing_86 : decode cX5_putCrossing 86 = .ok (.getfield 53, 3) := by decide +kernel
theorem dX5_putCrossing_89 : decode cX5_putCrossing 89 = .ok (.iload 9, 2) := by decide +kernel
theorem dX5_putCrossing_91 : decode cX5_putCrossing 91 = .ok (.laload, 1) := by decide +kernel
theorem dX5_putCrossing_92 : decode cX5_putCrossing 92 = .ok (.lastore, 1) := by decide +kernel
theorem dX5_putCrossing_93 : decode cX5_putCrossing 93 = .ok (.iinc 9 1, 3) := by decide +kernel
theorem dX5_putCrossing_96 : decode cX5_putCrossing 96 = .ok (.goto (-27), 3) := by decide +kernel
theorem dX5_putCrossing_99 : decode cX5_putCrossing 99 = .ok (.return_, 1) := by decide +kernel
theorem dX5_arrange_0 : decode cX5_arrange 0 = .ok (.iconst 0, 1) := by decide +kernel
theorem dX5_arrange_1 : decode cX5_arrange 1 = .ok (.istore_n 1, 1) := by decide +kernel
theorem dX5_arrange_2 : decode cX5_arrange 2 = .ok (.iload_n 1, 1) := by decide +kernel
theorem dX5_arrange_3 : decode cX5_arrange 3 = .ok (.iconst 2, 1) := by decide +kernel
theorem dX5_arrange_4 : decode cX5_arrange 4 = .ok (.if_icmp .ge 21, 3) := by decide +kernel
theorem dX5_arrange_7 : decode cX5_arrange 7 = .ok (.aload_n 0, 1) := by decide +kernel
theorem dX5_arrange_8 : decode cX5_arrange 8 = .ok (.iload_n 1, 1) := by decide +kernel
theorem dX5_arrange_9 : decode cX5_arrange 9 = .ok (.laload, 1) := by decide +kernel
theorem dX5_arrange_10 : decode cX5_arrange 10 = .ok (.aload_n 0, 1) := by decide +kernel
theorem dX5_arrange_11 : decode cX5_arrange 11 = .ok (.iconst 3, 1) := by decide +kernel
theorem dX5_arrange_12 : decode cX5_arrange 12 = .ok (.iload_n 1, 1) := by decide +kernel
theorem dX5_arrange_13 : decode cX5_arrange 13 = .ok (.iadd, 1) := by decide +kernel
theorem dX5_arrange_14 : decode cX5_arrange 14 = .ok (.laload, 1) := by decide +kernel
theorem dX5_arrange_15 : decode cX5_arrange 15 = .ok (.lcmp, 1) := by decide +kernel
theorem dX5_arrange_16 : decode cX5_arrange 16 = .ok (.ifCond .ne 9, 3) := by decide +kernel
theorem dX5_arrange_19 : decode cX5_arrange 19 = .ok (.iinc 1 1, 3) := by decide +kernel
theorem dX5_arrange_22 : decode cX5_arrange 22 = .ok (.goto (-20), 3) := by decide +kernel
theorem dX5_arrange_25 : decode cX5_arrange 25 = .ok (.iconst 0, 1) := by decide +kernel
theorem dX5_arrange_26 : decode cX5_arrange 26 = .ok (.istore_n 2, 1) := by decide +kernel
theorem dX5_arrange_27 : decode cX5_arrange 27 = .ok (.iload_n 2, 1) := by decide +kernel
theorem dX5_arrange_28 : decode cX5_arrange 28 = .ok (.iconst 3, 1) := by decide +kernel
theorem dX5_arrange_29 : decode cX5_arrange 29 = .ok (.if_icmp .ge 49, 3) := by decide +kernel
theorem dX5_arrange_32 : decode cX5_arrange 32 = .ok (.aload_n 0, 1) := by decide +kernel
theorem dX5_arrange_33 : decode cX5_arrange 33 = .ok (.iload_n 1, 1) := by decide +kernel
theorem dX5_arrange_34 : decode cX5_arrange 34 = .ok (.laload, 1) := by decide +kernel
theorem dX5_arrange_35 : decode cX5_arrange 35 = .ok (.aload_n 0, 1) := by decide +kernel
theorem dX5_arrange_36 : decode cX5_arrange 36 = .ok (.iconst 3, 1) := by decide +kernel
theorem dX5_arrange_37 : decode cX5_arrange 37 = .ok (.iload_n 1, 1) := by decide +kernel
theorem dX5_arrange_38 : decode cX5_arrange 38 = .ok (.iadd, 1) := by decide +kernel
theorem dX5_arrange_39 : decode cX5_arrange 39 = .ok (.laload, 1) := by decide +kernel
theorem dX5_arrange_40 : decode cX5_arrange 40 = .ok (.lcmp, 1) := by decide +kernel
theorem dX5_arrange_41 : decode cX5_arrange 41 = .ok (.ifCond .le 37, 3) := by decide +kernel
theorem dX5_arrange_44 : decode cX5_arrange 44 = .ok (.iload_n 1, 1) := by decide +kernel
theorem dX5_arrange_45 : decode cX5_arrange 45 = .ok (.iconst 1, 1) := by decide +kernel
theorem dX5_arrange_46 : decode cX5_arrange 46 = .ok (.iadd, 1) := by decide +kernel
theorem dX5_arrange_47 : decode cX5_arrange 47 = .ok (.iload_n 2, 1) := by decide +kernel
theorem dX5_arrange_48 : decode cX5_arrange 48 = .ok (.iadd, 1) := by decide +kernel
theorem dX5_arrange_49 : decode cX5_arrange 49 = .ok (.iconst 3, 1) := by decide +kernel
theorem dX5_arrange_50 : decode cX5_arrange 50 = .ok (.irem, 1) := by decide +kernel
theorem dX5_arrange_51 : decode cX5_arrange 51 = .ok (.istore_n 3, 1) := by decide +kernel
theorem dX5_arrange_52 : decode cX5_arrange 52 = .ok (.aload_n 0, 1) := by decide +kernel
theorem dX5_arrange_53 : decode cX5_arrange 53 = .ok (.iload_n 3, 1) := by decide +kernel
theorem dX5_arrange_54 : decode cX5_arrange 54 = .ok (.laload, 1) := by decide +kernel
theorem dX5_arrange_55 : decode cX5_arrange 55 = .ok (.lstore 4, 2) := by decide +kernel
theorem dX5_arrange_57 : decode cX5_arrange 57 = .ok (.aload_n 0, 1) := by decide +kernel
theorem dX5_arrange_58 : decode cX5_arrange 58 = .ok (.iload_n 3, 1) := by decide +kernel
theorem dX5_arrange_59 : decode cX5_arrange 59 = .ok (.aload_n 0, 1) := by decide +kernel
theorem dX5_arrange_60 : decode cX5_arrange 60 = .ok (.iconst 3, 1) := by decide +kernel
theorem dX5_arrange_61 : decode cX5_arrange 61 = .ok (.iload_n 3, 1) := by decide +kernel
theorem dX5_arrange_62 : decode cX5_arrange 62 = .ok (.iadd, 1) := by decide +kernel
theorem dX5_arrange_63 : decode cX5_arrange 63 = .ok (.laload, 1) := by decide +kernel
theorem dX5_arrange_64 : decode cX5_arrange 64 = .ok (.lastore, 1) := by decide +kernel
theorem dX5_arrange_65 : decode cX5_arrange 65 = .ok (.aload_n 0, 1) := by decide +kernel
theorem dX5_arrange_66 : decode cX5_arrange 66 = .ok (.iconst 3, 1) := by decide +kernel
theorem dX5_arrange_67 : decode cX5_arrange 67 = .ok (.iload_n 3, 1) := by decide +kernel
theorem dX5_arrange_68 : decode cX5_arrange 68 = .ok (.iadd, 1) := by decide +kernel
theorem dX5_arrange_69 : decode cX5_arrange 69 = .ok (.lload 4, 2) := by decide +kernel
theorem dX5_arrange_71 : decode cX5_arrange 71 = .ok (.lastore, 1) := by decide +kernel
theorem dX5_arrange_72 : decode cX5_arrange 72 = .ok (.iinc 2 1, 3) := by decide +kernel
theorem dX5_arrange_75 : decode cX5_arrange 75 = .ok (.goto (-48), 3) := by decide +kernel
theorem dX5_arrange_78 : decode cX5_arrange 78 = .ok (.return_, 1) := by decide +kernel
set_option maxRecDepth 20000 in
theorem ggX5_cross_X5_isOf : GoodIn wsX5_cross wsX5_isOf := goodIn_r _ [13, 14, 15, 16, 12, 17, 54, 55, 56, 57, 58, 59, 60, 61, 62, 63, 64, 65, 66, 67, 68, 69, 70] (by decide +kernel) (by decide +kernel)
set_option maxRecDepth 20000 in
theorem gX5_cross_X5_isOf : GoodIn wsX5_cross (wsV RX5 97 RX5 yX5_isOf wsX5_isOf) := goodIn_app (goodIn_of _ (by decide +kernel)) ggX5_cross_X5_isOf
set_option maxRecDepth 20000 in
theorem ggX5_cross_X5_layTwo : GoodIn wsX5_cross wsX5_layTwo := goodIn_r _ [21, 22, 3, 4, 23, 24, 12, 25, 26, 27, 28, 54, 55, 56, 57, 58, 59, 60, 61, 62, 63, 64, 65, 66, 67, 68, 69, 70] (by decide +kernel) (by decide +kernel)
set_option maxRecDepth 20000 in
theorem gX5_cross_X5_layTwo : GoodIn wsX5_cross (wsV RX5 192 RX5 yX5_layTwo wsX5_layTwo) := goodIn_app (goodIn_of _ (by decide +kernel)) ggX5_cross_X5_layTwo
set_option maxRecDepth 20000 in
theorem ggX5_cross_X5_valueAt : GoodIn wsX5_cross wsX5_valueAt := goodIn_r _ [32, 33, 54, 55, 56, 57, 58, 59, 60, 61, 62, 63, 64, 65, 66, 67, 68, 69, 70] (by decide +kernel) (by decide +kernel)
set_option maxRecDepth 20000 in
theorem gX5_cross_X5_valueAt : GoodIn wsX5_cross (wsV RX5 110 RX5 yX5_valueAt wsX5_valueAt) := goodIn_app (goodIn_of _ (by decide +kernel)) ggX5_cross_X5_valueAt
set_option maxRecDepth 20000 in
theorem ggX5_cross_X5_layConic : GoodIn wsX5_cross wsX5_layConic := goodIn_r _ [37, 33, 38, 39, 40, 12, 41, 5, 8, 54, 55, 56, 57, 58, 59, 60, 61, 62, 63, 64, 65, 66, 67, 68, 69, 70] (by decide +kernel) (by decide +kernel)
set_option maxRecDepth 20000 in
theorem gX5_cross_X5_layConic : GoodIn wsX5_cross (wsV RX5 149 RX5 yX5_layConic wsX5_layConic) := goodIn_app (goodIn_of _ (by decide +kernel)) ggX5_cross_X5_layConic
set_option maxRecDepth 20000 in
theorem ggX5_cross_X5_common : GoodIn wsX5_cross wsX5_common := goodIn_r _ [28] (by decide +kernel) (by decide +kernel)
set_option maxRecDepth 20000 in
theorem gX5_cross_X5_common : GoodIn wsX5_cross (va_wsS RX5 60 yX5_common wsX5_common) := goodIn_app (goodIn_of _ (by decide +kernel)) ggX5_cross_X5_common
set_option maxRecDepth 20000 in
theorem ggX5_cross_X5_rootOf : GoodIn wsX5_cross wsX5_rootOf := goodIn_r _ [44, 45, 8] (by decide +kernel) (by decide +kernel)
set_option maxRecDepth 20000 in
theorem gX5_cross_X5_rootOf : GoodIn wsX5_cross (va_wsS RX5 195 yX5_rootOf wsX5_rootOf) := goodIn_app (goodIn_of _ (by decide +kernel)) ggX5_cross_X5_rootOf
set_option maxRecDepth 20000 in
theorem ggX5_cross_X5_putCrossing : GoodIn wsX5_cross wsX5_putCrossing := goodIn_r _ [49, 50, 3, 4, 7, 26, 27, 12, 28, 23, 24, 25, 54, 55, 56, 57, 58, 59, 60, 61, 62, 63, 64, 65, 66, 67, 68, 69, 70] (by decide +kernel) (by decide +kernel)
set_option maxRecDepth 20000 in
theorem gX5_cross_X5_putCrossing : GoodIn wsX5_cross (wsV RX5 199 RX5 yX5_putCrossing wsX5_putCrossing) := goodIn_app (goodIn_of _ (by decide +kernel)) ggX5_cross_X5_putCrossing
set_option maxRecDepth 20000 in
theorem ggX5_cross_X5_arrange : GoodIn wsX5_cross wsX5_arrange := goodIn_r _ [53] (by decide +kernel) (by decide +kernel)
set_option maxRecDepth 20000 in
theorem gX5_cross_X5_arrange : GoodIn wsX5_cross (va_wsS RX5 203 yX5_arrange wsX5_arrange) := goodIn_app (goodIn_of _ (by decide +kernel)) ggX5_cross_X5_arrange
theorem dX5_cross_0 : decode cX5_cross 0 = .ok (.aload_n 0, 1) := by decide +kernel
theorem dX5_cross_1 : decode cX5_cross 1 = .ok (.iconst 2, 1) := by decide +kernel
theorem dX5_cross_2 : decode cX5_cross 2 = .ok (.iload_n 1, 1) := by decide +kernel
theorem dX5_cross_3 : decode cX5_cross 3 = .ok (.invokevirtual 97, 3) := by decide +kernel
theorem dX5_cross_6 : decode cX5_cross 6 = .ok (.ifCond .eq 12, 3) := by decide +kernel
theorem dX5_cross_9 : decode cX5_cross 9 = .ok (.aload_n 0, 1) := by decide +kernel
theorem dX5_cross_10 : decode cX5_cross 10 = .ok (.iconst 1, 1) := by decide +kernel
theorem dX5_cross_11 : decode cX5_cross 11 = .ok (.iload_n 2, 1) := by decide +kernel
theorem dX5_cross_12 : decode cX5_cross 12 = .ok (.invokevirtual 97, 3) := by decide +kernel
theorem dX5_cross_15 : decode cX5_cross 15 = .ok (.ifCond .ne 6, 3) := by decide +kernel
theorem dX5_cross_18 : decode cX5_cross 18 = .ok (.ldc 101, 2) := by decide +kernel
theorem dX5_cross_20 : decode cX5_cross 20 = .ok (.ireturn, 1) := by decide +kernel
theorem dX5_cross_21 : decode cX5_cross 21 = .ok (.aload_n 0, 1) := by decide +kernel
theorem dX5_cross_22 : decode cX5_cross 22 = .ok (.iconst 0, 1) := by decide +kernel
theorem dX5_cross_23 : decode cX5_cross 23 = .ok (.putfield 188, 3) := by decide +kernel
theorem dX5_cross_26 : decode cX5_cross 26 = .ok (.aload_n 0, 1) := by decide +kernel
theorem dX5_cross_27 : decode cX5_cross 27 = .ok (.iload_n 2, 1) := by decide +kernel
theorem dX5_cross_28 : decode cX5_cross 28 = .ok (.invokevirtual 192, 3) := by decide +kernel
theorem dX5_cross_31 : decode cX5_cross 31 = .ok (.aload_n 0, 1) := by decide +kernel
theorem dX5_cross_32 : decode cX5_cross 32 = .ok (.iload_n 1, 1) := by decide +kernel
theorem dX5_cross_33 : decode cX5_cross 33 = .ok (.aload_n 0, 1) := by decide +kernel
theorem dX5_cross_34 : decode cX5_cross 34 = .ok (.getfield 47, 3) := by decide +kernel
theorem dX5_cross_37 : decode cX5_cross 37 = .ok (.iconst 0, 1) := by decide +kernel
theorem dX5_cross_38 : decode cX5_cross 38 = .ok (.laload, 1) := by decide +kernel
theorem dX5_cross_39 : decode cX5_cross 39 = .ok (.aload_n 0, 1) := by decide +kernel
theorem dX5_cross_40 : decode cX5_cross 40 = .ok (.getfield 47, 3) := by decide +kernel
theorem dX5_cross_43 : decode cX5_cross 43 = .ok (.iconst 1, 1) := by decide +kernel
theorem dX5_cross_44 : decode cX5_cross 44 = .ok (.laload, 1) := by decide +kernel
theorem dX5_cross_45 : decode cX5_cross 45 = .ok (.aload_n 0, 1) := by decide +kernel
theorem dX5_cross_46 : decode cX5_cross 46 = .ok (.getfield 47, 3) := by decide +kernel
theorem dX5_cross_49 : decode cX5_cross 49 = .ok (.iconst 2, 1) := by decide +kernel
theorem dX5_cross_50 : decode cX5_cross 50 = .ok (.laload, 1) := by decide +kernel
theorem dX5_cross_51 : decode cX5_cross 51 = .ok (.invokevirtual 110, 3) := by decide +kernel
theorem dX5_cross_54 : decode cX5_cross 54 = .ok (.lstore_n 3, 1) := by decide +kernel
theorem dX5_cross_55 : decode cX5_cross 55 = .ok (.aload_n 0, 1) := by decide +kernel
theorem dX5_cross_56 : decode cX5_cross 56 = .ok (.iload_n 1, 1) := by decide +kernel
theorem dX5_cross_57 : decode cX5_cross 57 = .ok (.aload_n 0, 1) := by decide +kernel
theorem dX5_cross_58 : decode cX5_cross 58 = .ok (.getfield 50, 3) := by decide +kernel
theorem dX5_cross_61 : decode cX5_cross 61 = .ok (.iconst 0, 1) := by decide +kernel
theorem dX5_cross_62 : decode cX5_cross 62 = .ok (.laload, 1) := by decide +kernel
theorem dX5_cross_63 : decode cX5_cross 63 = .ok (.aload_n 0, 1) := by decide +kernel
theorem dX5_cross_64 : decode cX5_cross 64 = .ok (.getfield 50, 3) := by decide +kernel
theorem dX5_cross_67 : decode cX5_cross 67 = .ok (.iconst 1, 1) := by decide +kernel
theorem dX5_cross_68 : decode cX5_cross 68 = .ok (.laload, 1) := by decide +kernel
theorem dX5_cross_69 : decode cX5_cross 69 = .ok (.aload_n 0, 1) := by decide +kernel
theorem dX5_cross_70 : decode cX5_cross 70 = .ok (.getfield 50, 3) := by decide +kernel
theorem dX5_cross_73 : decode cX5_cross 73 = .ok (.iconst 2, 1) := by decide +kernel
theorem dX5_cross_74 : decode cX5_cross 74 = .ok (.laload, 1) := by decide +kernel
theorem dX5_cross_75 : decode cX5_cross 75 = .ok (.invokevirtual 110, 3) := by decide +kernel
theorem dX5_cross_78 : decode cX5_cross 78 = .ok (.lstore 5, 2) := by decide +kernel
theorem dX5_cross_80 : decode cX5_cross 80 = .ok (.aload_n 0, 1) := by decide +kernel
theorem dX5_cross_81 : decode cX5_cross 81 = .ok (.iload_n 1, 1) := by decide +kernel
theorem dX5_cross_82 : decode cX5_cross 82 = .ok (.invokevirtual 149, 3) := by decide +kernel
theorem dX5_cross_85 : decode cX5_cross 85 = .ok (.lconst 0, 1) := by decide +kernel
theorem dX5_cross_86 : decode cX5_cross 86 = .ok (.lstore 7, 2) := by decide +kernel
theorem dX5_cross_88 : decode cX5_cross 88 = .ok (.iconst 0, 1) := by decide +kernel
theorem dX5_cross_89 : decode cX5_cross 89 = .ok (.istore 9, 2) := by decide +kernel
theorem dX5_cross_91 : decode cX5_cross 91 = .ok (.iload 9, 2) := by decide +kernel
theorem dX5_cross_93 : decode cX5_cross 93 = .ok (.iconst 3, 1) := by decide +kernel
theorem dX5_cross_94 : decode cX5_cross 94 = .ok (.if_icmp .ge 57, 3) := by decide +kernel
theorem dX5_cross_97 : decode cX5_cross 97 = .ok (.iconst 0, 1) := by decide +kernel
theorem dX5_cross_98 : decode cX5_cross 98 = .ok (.istore 10, 2) := by decide +kernel
theorem dX5_cross_100 : decode cX5_cross 100 = .ok (.iload 10, 2) := by decide +kernel
theorem dX5_cross_102 : decode cX5_cross 102 = .ok (.iconst 3, 1) := by decide +kernel
theorem dX5_cross_103 : decode cX5_cross 103 = .ok (.if_icmp .ge 42, 3) := by decide +kernel
theorem dX5_cross_106 : decode cX5_cross 106 = .ok (.lload 7, 2) := by decide +kernel
theorem dX5_cross_108 : decode cX5_cross 108 = .ok (.aload_n 0, 1) := by decide +kernel
theorem dX5_cross_109 : decode cX5_cross 109 = .ok (.getfield 35, 3) := by decide +kernel
theorem dX5_cross_112 : decode cX5_cross 112 = .ok (.iconst 3, 1) := by decide +kernel
theorem dX5_cross_113 : decode cX5_cross 113 = .ok (.iload 9, 2) := by decide +kernel
theorem dX5_cross_115 : decode cX5_cross 115 = .ok (.imul, 1) := by decide +kernel
theorem dX5_cross_116 : decode cX5_cross 116 = .ok (.iload 10, 2) := by decide +kernel
theorem dX5_cross_118 : decode cX5_cross 118 = .ok (.iadd, 1) := by decide +kernel
theorem dX5_cross_119 : decode cX5_cross 119 = .ok (.laload, 1) := by decide +kernel
theorem dX5_cross_120 : decode cX5_cross 120 = .ok (.aload_n 0, 1) := by decide +kernel
theorem dX5_cross_121 : decode cX5_cross 121 = .ok (.getfield 47, 3) := by decide +kernel
theorem dX5_cross_124 : decode cX5_cross 124 = .ok (.iload 9, 2) := by decide +kernel
theorem dX5_cross_126 : decode cX5_cross 126 = .ok (.laload, 1) := by decide +kernel
theorem dX5_cross_127 : decode cX5_cross 127 = .ok (.lmul, 1) := by decide +kernel
theorem dX5_cross_128 : decode cX5_cross 128 = .ok (.aload_n 0, 1) := by decide +kernel
theorem dX5_cross_129 : decode cX5_cross 129 = .ok (.getfield 50, 3) := by decide +kernel
theorem dX5_cross_132 : decode cX5_cross 132 = .ok (.iload 10, 2) := by decide +kernel
theorem dX5_cross_134 : decode cX5_cross 134 = .ok (.laload, 1) := by decide +kernel
theorem dX5_cross_135 : decode cX5_cross 135 = .ok (.lmul, 1) := by decide +kernel
theorem dX5_cross_136 : decode cX5_cross 136 = .ok (.ladd, 1) := by decide +kernel
theorem dX5_cross_137 : decode cX5_cross 137 = .ok (.lstore 7, 2) := by decide +kernel
theorem dX5_cross_139 : decode cX5_cross 139 = .ok (.iinc 10 1, 3) := by decide +kernel
theorem dX5_cross_142 : decode cX5_cross 142 = .ok (.goto (-42), 3) := by decide +kernel
